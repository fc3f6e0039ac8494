/-! the law's holdsAll -/
def haB (X : zX) (l : Launch) (D : va_G) (g : zG) (A : Nat → Prop) (a : Nat → Nat) (C : zMS) (f : Nat → Int32) (nn : Nat) : Prop := A = va_A ([(nn, .inl (g.1, 3, .inl f))] ++ wC g a C (4 * cM C)) (zs X).heap.size ∧ zl X = l ∧ zB X RL cL_holdsAll 13 wsL_holdsAll { frames := 9, cells := 7184, slots := 43104, locals := 183 } D (zT g) (zI1 D A (zs X)) ∧ (zmeth X).sig.returnType = some .boolean ∧ zLF A (zs X) (zs X).heap ∧ l.stackTraces = false
abbrev haQ (X : zX) (D : va_G) (g : zG) (A : Nat → Prop) (a : Nat → Nat) (C : zMS) (f : Nat → Int32) (nn : Nat) : State → Prop := zQe X (va_Qi (fun r w' => r = nI 1 ∧ w' = [(nn, .inl (g.1, 3, .inl f))] ++ wC g a C (4 * cM C)) (zEnd D (zT g) ([(nn, .inl (g.1, 3, .inl f))] ++ wC g a C (4 * cM C)) (zs X).heap.size) A) 7184 43104 A
set_option maxHeartbeats 4000000 in
set_option maxRecDepth 100000 in
theorem ha_Bo {X : zX} {l : Launch} {D : va_G} {g : zG} {A : Nat → Prop} {a : Nat → Nat} {C : zMS} {f : Nat → Int32} {nn : Nat} (Hb : haB X l D g A a C f nn) (hV : KV C) (hf0 : f 0 = nI (cM C)) (d : Nat) (hd : d ≤ cT C) (i : Nat) (hi : i = 8) (k n : Nat) (hk : k + 0 ≤ 7184) (hn : n + 0 ≤ 43104) : zJ X 13 (zI1 D A (zs X)) (haQ X D g A a C f nn) ([(nn, .inl (g.1, 3, .inl f))] ++ wC g a C (4 * cM C)) k n [(0, .ref (a 0)), (1, .ref (nn)), (3, .int (nI (d))), (4, .int ((zsum (fun x => s_balance C (nI x) (nI d)) (i)))), (5, .int (nI (zcnt (fun p => cSt C p = 1) (cP C)))), (6, .int (bI (AT C (cP C)))), (7, .int (nI (1))), (8, .int (nI (i)))] 285 [] := by
  obtain ⟨hAe, hl, B, hr, hLF, hst⟩ := id Hb
  have hI := KV_I hV
  have hJ := KV_J hV
  have bP := CI_b19 hI
  have bM := CI_b20 hI
  have bK := CI_b22 hI
  have bT := CI_b0 hI
  subst hi
  have hy : rng (nI d) (cT C + 1) := rn_in (by omega)
  have hs0 := ha_sum hV hy
  have hz0 := zcnt_le (fun p => cSt C p = 1) (cP C)
  have hl0 := zcnt_mono (P := fun p => cSt C p = 1 ∧ ¬ cHT C p (nI 1)) (R := fun p => cSt C p = 1) (n := cP C) (fun k _ h => h.1)
  refine z_iload B 7 dL_holdsAll_285 rfl ?_
  refine z_bipush (v := nI 8) B dL_holdsAll_287 (by decide) ?_
  refine z_icmpN_ge B 375 dL_holdsAll_289 (by decide) (by omega) (by omega) (fun _ => ?_) (fun q => absurd q (by omega))
  refine z_iload B 6 dL_holdsAll_375 rfl ?_
  refine z_if_eq B 407 dL_holdsAll_377 (by decide) (fun h => absurd h (by decide)) (fun _ => ?_)
  refine z_iload B 3 dL_holdsAll_380 rfl ?_
  refine z_if_ne B 407 dL_holdsAll_382 (by decide) (fun q => absurd hs0 q) (fun _ => ?_)
  refine z_iload B 4 dL_holdsAll_385 rfl ?_
  refine z_aload_n B 0 dL_holdsAll_387 rfl rfl ?_
  refine z_callP (As := []) (st := [.int (nI (zcnt (fun p => cSt C p = 1) (cP C)))]) (C := RX6) (T := TX6) (N := 6) (ci := 6) (l := l) B hl (cc_X6_gaps l D g a C (4 * cM C) hI) gL_holdsAll_X6_gaps rfl ⟨rfl, rfl⟩ nm_X6_gaps ⟨by decide, by decide⟩ (fun _ h => sub_r h) 0 rfl rfl rfl (Nat.le_of_ble_eq_true rfl) dL_holdsAll_388 (show k ≤ 7184 by omega) (show n ≤ 43104 by omega) (fun r hr1 => ?_)
  obtain rfl := hr1
  refine z_icmpN_ne B 407 dL_holdsAll_391 (by decide) (by omega) (by omega) (fun q => absurd q (by omega)) (fun _ => ?_)
  refine z_aload_n B 0 dL_holdsAll_394 rfl rfl ?_
  refine z_callP (As := []) (st := []) (C := RX6) (T := TX6) (N := 6) (ci := 6) (l := l) B hl (cc_X6_lost l D g a C (4 * cM C) hI (Nat.le_refl _)) gL_holdsAll_X6_lost rfl ⟨rfl, rfl⟩ nm_X6_lost ⟨by decide, by decide⟩ (fun _ h => sub_r h) 0 rfl rfl rfl (Nat.le_of_ble_eq_true rfl) dL_holdsAll_395 (show k ≤ 7184 by omega) (show n ≤ 43104 by omega) (fun r hr1 => ?_)
  obtain rfl := hr1
  refine z_iload B 4 dL_holdsAll_398 rfl ?_
  refine z_icmpN_gt B 407 dL_holdsAll_400 (by decide) (by omega) (by omega) (fun q => absurd q (by omega)) (fun _ => ?_)
  refine z_iconst (v := nI 1) B dL_holdsAll_403 (by decide) ?_
  refine z_goto B 408 dL_holdsAll_404 (by decide) ?_
  exact z_mret B hAe hr dL_holdsAll_408 rfl (by omega) (by omega) (⟨rfl, rfl⟩)
set_option maxHeartbeats 4000000 in
set_option maxRecDepth 100000 in
theorem ha_B350 {X : zX} {l : Launch} {D : va_G} {g : zG} {A : Nat → Prop} {a : Nat → Nat} {C : zMS} {f : Nat → Int32} {nn : Nat} (Hb : haB X l D g A a C f nn) (hV : KV C) (hf0 : f 0 = nI (cM C)) (d : Nat) (hd : d ≤ cT C) (i : Nat) (hi : i < 8) (k n KB NB : Nat) (hKB : KB ≤ 7184) (hNB : NB ≤ 43104) (hk : k + 0 ≤ KB) (hn : n + 0 ≤ NB) (kk : ∀ (k2 n2 : Nat), k2 ≤ KB → n2 ≤ NB → zJ X 13 (zI1 D A (zs X)) (haQ X D g A a C f nn) ([(nn, .inl (g.1, 3, .inl f))] ++ wC g a C (4 * cM C)) k2 n2 [(0, .ref (a 0)), (1, .ref (nn)), (3, .int (nI (d))), (4, .int ((zsum (fun x => s_balance C (nI x) (nI d)) (i + 1)))), (5, .int (nI (zcnt (fun p => cSt C p = 1) (cP C)))), (6, .int (bI (AT C (cP C)))), (7, .int (nI (1))), (8, .int (nI (i + 1)))] 285 []) : zJ X 13 (zI1 D A (zs X)) (haQ X D g A a C f nn) ([(nn, .inl (g.1, 3, .inl f))] ++ wC g a C (4 * cM C)) k n [(0, .ref (a 0)), (1, .ref (nn)), (3, .int (nI (d))), (4, .int ((zsum (fun x => s_balance C (nI x) (nI d)) (i + 1)))), (5, .int (nI (zcnt (fun p => cSt C p = 1) (cP C)))), (6, .int (bI (AT C (cP C)))), (7, .int (nI (1))), (8, .int (nI (i))), (9, .int ((s_balance C (nI i) (nI d)))), (10, .int ((s_byPages C (nI i) (nI d))))] 350 [] := by
  obtain ⟨hAe, hl, B, hr, hLF, hst⟩ := id Hb
  have hI := KV_I hV
  have hJ := KV_J hV
  have bP := CI_b19 hI
  have bM := CI_b20 hI
  have bK := CI_b22 hI
  have bT := CI_b0 hI
  have hy : rng (nI d) (cT C + 1) := rn_in (by omega)
  refine z_iload B 9 dL_holdsAll_350 rfl ?_
  refine z_iload B 8 dL_holdsAll_352 rfl ?_
  refine z_icmp_eq B 362 dL_holdsAll_354 (by decide) (fun c354 => ?_) (fun c354 => ?_)
  · refine z_iconst (v := nI 1) B dL_holdsAll_362 (by decide) ?_
    refine z_goto B 367 dL_holdsAll_363 (by decide) ?_
    refine z_istore (lv1 := [(7, .int (nI (1))), (0, .ref (a 0)), (1, .ref (nn)), (3, .int (nI (d))), (4, .int ((zsum (fun x => s_balance C (nI x) (nI d)) (i + 1)))), (5, .int (nI (zcnt (fun p => cSt C p = 1) (cP C)))), (6, .int (bI (AT C (cP C)))), (8, .int (nI (i))), (9, .int ((s_balance C (nI i) (nI d)))), (10, .int ((s_byPages C (nI i) (nI d))))]) B dL_holdsAll_367 (by decide) rfl ?_
    refine z_iinc B 7 (lv1 := [(8, .int (nI (i + 1))), (7, .int (nI (1))), (0, .ref (a 0)), (1, .ref (nn)), (3, .int (nI (d))), (4, .int ((zsum (fun x => s_balance C (nI x) (nI d)) (i + 1)))), (5, .int (nI (zcnt (fun p => cSt C p = 1) (cP C)))), (6, .int (bI (AT C (cP C)))), (9, .int ((s_balance C (nI i) (nI d)))), (10, .int ((s_byPages C (nI i) (nI d))))]) dL_holdsAll_369 rfl (nI_1 _) (by decide) rfl ?_
    refine z_goto B 285 dL_holdsAll_372 (by decide) ?_
    refine z_loc [2, 3, 4, 5, 6, 7, 1, 0] (lv' := [(0, .ref (a 0)), (1, .ref (nn)), (3, .int (nI (d))), (4, .int ((zsum (fun x => s_balance C (nI x) (nI d)) (i + 1)))), (5, .int (nI (zcnt (fun p => cSt C p = 1) (cP C)))), (6, .int (bI (AT C (cP C)))), (7, .int (nI (1))), (8, .int (nI (i + 1)))]) rfl ?_
    exact kk (k) (n) (by omega) (by omega)
  · refine z_iload B 5 dL_holdsAll_357 rfl ?_
    refine z_ifB_ne B 366 dL_holdsAll_359 (by decide) (fun q => absurd (ha_pg hV q (rn_in hi) hy) c354) (fun _ => ?_)
    refine z_iconst (v := nI 1) B dL_holdsAll_362 (by decide) ?_
    refine z_goto B 367 dL_holdsAll_363 (by decide) ?_
    refine z_istore (lv1 := [(7, .int (nI (1))), (0, .ref (a 0)), (1, .ref (nn)), (3, .int (nI (d))), (4, .int ((zsum (fun x => s_balance C (nI x) (nI d)) (i + 1)))), (5, .int (nI (zcnt (fun p => cSt C p = 1) (cP C)))), (6, .int (bI (AT C (cP C)))), (8, .int (nI (i))), (9, .int ((s_balance C (nI i) (nI d)))), (10, .int ((s_byPages C (nI i) (nI d))))]) B dL_holdsAll_367 (by decide) rfl ?_
    refine z_iinc B 7 (lv1 := [(8, .int (nI (i + 1))), (7, .int (nI (1))), (0, .ref (a 0)), (1, .ref (nn)), (3, .int (nI (d))), (4, .int ((zsum (fun x => s_balance C (nI x) (nI d)) (i + 1)))), (5, .int (nI (zcnt (fun p => cSt C p = 1) (cP C)))), (6, .int (bI (AT C (cP C)))), (9, .int ((s_balance C (nI i) (nI d)))), (10, .int ((s_byPages C (nI i) (nI d))))]) dL_holdsAll_369 rfl (nI_1 _) (by decide) rfl ?_
    refine z_goto B 285 dL_holdsAll_372 (by decide) ?_
    refine z_loc [2, 3, 4, 5, 6, 7, 1, 0] (lv' := [(0, .ref (a 0)), (1, .ref (nn)), (3, .int (nI (d))), (4, .int ((zsum (fun x => s_balance C (nI x) (nI d)) (i + 1)))), (5, .int (nI (zcnt (fun p => cSt C p = 1) (cP C)))), (6, .int (bI (AT C (cP C)))), (7, .int (nI (1))), (8, .int (nI (i + 1)))]) rfl ?_
    exact kk (k) (n) (by omega) (by omega)
set_option maxHeartbeats 4000000 in
set_option maxRecDepth 100000 in
theorem ha_Bi {X : zX} {l : Launch} {D : va_G} {g : zG} {A : Nat → Prop} {a : Nat → Nat} {C : zMS} {f : Nat → Int32} {nn : Nat} (Hb : haB X l D g A a C f nn) (hV : KV C) (hf0 : f 0 = nI (cM C)) (d : Nat) (hd : d ≤ cT C) (i : Nat) (hi : i < 8) (k n KB NB : Nat) (hKB : KB ≤ 7184) (hNB : NB ≤ 43104) (hk : k + 8 ≤ KB) (hn : n + 48 ≤ NB) (kk : ∀ (k2 n2 : Nat), k2 ≤ KB → n2 ≤ NB → zJ X 13 (zI1 D A (zs X)) (haQ X D g A a C f nn) ([(nn, .inl (g.1, 3, .inl f))] ++ wC g a C (4 * cM C)) k2 n2 [(0, .ref (a 0)), (1, .ref (nn)), (3, .int (nI (d))), (4, .int ((zsum (fun x => s_balance C (nI x) (nI d)) (i + 1)))), (5, .int (nI (zcnt (fun p => cSt C p = 1) (cP C)))), (6, .int (bI (AT C (cP C)))), (7, .int (nI (1))), (8, .int (nI (i + 1)))] 285 []) : zJ X 13 (zI1 D A (zs X)) (haQ X D g A a C f nn) ([(nn, .inl (g.1, 3, .inl f))] ++ wC g a C (4 * cM C)) k n [(0, .ref (a 0)), (1, .ref (nn)), (3, .int (nI (d))), (4, .int ((zsum (fun x => s_balance C (nI x) (nI d)) (i)))), (5, .int (nI (zcnt (fun p => cSt C p = 1) (cP C)))), (6, .int (bI (AT C (cP C)))), (7, .int (nI (1))), (8, .int (nI (i)))] 285 [] := by
  obtain ⟨hAe, hl, B, hr, hLF, hst⟩ := id Hb
  have hI := KV_I hV
  have hJ := KV_J hV
  have bP := CI_b19 hI
  have bM := CI_b20 hI
  have bK := CI_b22 hI
  have bT := CI_b0 hI
  have hy : rng (nI d) (cT C + 1) := rn_in (by omega)
  have hcp := ha_cp (C := C) (x := nI i) (y := nI d) (rn_in hi) hy
  refine z_iload B 7 dL_holdsAll_285 rfl ?_
  refine z_bipush (v := nI 8) B dL_holdsAll_287 (by decide) ?_
  refine z_icmpN_ge B 375 dL_holdsAll_289 (by decide) (by omega) (by omega) (fun q => absurd q (by omega)) (fun _ => ?_)
  refine z_iload B 6 dL_holdsAll_292 rfl ?_
  refine z_if_eq B 375 dL_holdsAll_294 (by decide) (fun h => absurd h (by decide)) (fun _ => ?_)
  refine z_aload_n B 0 dL_holdsAll_297 rfl rfl ?_
  refine z_iload B 7 dL_holdsAll_298 rfl ?_
  refine z_iload_n B 2 dL_holdsAll_300 rfl rfl ?_
  refine z_callW (As := [.ref (a 0), .int (nI (i)), .int (nI (d))]) (st := [])  B hLF hl (fo_balance l D g a C hst hI (nI (i)) (nI (d))) gL_holdsAll_L_balance rfl ⟨rfl, rfl⟩ nm_L_balance ⟨by decide, by decide⟩ rfl (Nat.le_of_ble_eq_true rfl) dL_holdsAll_301 (by omega) (by omega) (show k + 2 ≤ 7184 by omega) (show n + 12 ≤ 43104 by omega) (fun r w1 hpq => ?_)
  obtain ⟨rfl, rfl⟩ := hpq
  refine z_istore (lv1 := [(9, .int (s_balance C (nI (i)) (nI (d)))), (0, .ref (a 0)), (1, .ref (nn)), (3, .int (nI (d))), (4, .int ((zsum (fun x => s_balance C (nI x) (nI d)) (i)))), (5, .int (nI (zcnt (fun p => cSt C p = 1) (cP C)))), (6, .int (bI (AT C (cP C)))), (7, .int (nI (1))), (8, .int (nI (i)))]) B dL_holdsAll_304 (by decide) rfl ?_
  refine z_aload_n B 1 dL_holdsAll_306 rfl rfl ?_
  refine z_iload B 8 dL_holdsAll_307 rfl ?_
  refine z_iload_n B 3 dL_holdsAll_309 rfl rfl ?_
  refine z_callW (As := [.ref (a 0), .int (nI (i)), .int (nI (d))]) (st := [])  B hLF hl (fo_byPages l D g a C hst hI (nI (i)) (nI (d))) gL_holdsAll_L_byPages rfl ⟨rfl, rfl⟩ nm_L_byPages ⟨by decide, by decide⟩ rfl (Nat.le_of_ble_eq_true rfl) dL_holdsAll_310 (by omega) (by omega) (show k + 5 ≤ 7184 by omega) (show n + 30 ≤ 43104 by omega) (fun r w1 hpq => ?_)
  obtain ⟨rfl, rfl⟩ := hpq
  refine z_istore (lv1 := [(10, .int (s_byPages C (nI (i)) (nI (d)))), (9, .int (s_balance C (nI (i)) (nI (d)))), (0, .ref (a 0)), (1, .ref (nn)), (3, .int (nI (d))), (4, .int ((zsum (fun x => s_balance C (nI x) (nI d)) (i)))), (5, .int (nI (zcnt (fun p => cSt C p = 1) (cP C)))), (6, .int (bI (AT C (cP C)))), (7, .int (nI (1))), (8, .int (nI (i)))]) B dL_holdsAll_313 (by decide) rfl ?_
  refine z_aload_n B 2 dL_holdsAll_315 rfl rfl ?_
  refine z_iload B 9 dL_holdsAll_316 rfl ?_
  refine z_iload_n B 4 dL_holdsAll_318 rfl rfl ?_
  refine z_callW (As := [.ref (a 0), .int (nI (i)), .int (nI (d))]) (st := [])  B hLF hl (fo_byCopies l D g a C hst hI (nI (i)) (nI (d))) gL_holdsAll_L_byCopies rfl ⟨rfl, rfl⟩ nm_L_byCopies ⟨by decide, by decide⟩ rfl (Nat.le_of_ble_eq_true rfl) dL_holdsAll_319 (by omega) (by omega) (show k + 8 ≤ 7184 by omega) (show n + 48 ≤ 43104 by omega) (fun r w1 hpq => ?_)
  obtain ⟨rfl, rfl⟩ := hpq
  refine z_istore (lv1 := [(11, .int (s_byCopies C (nI (i)) (nI (d)))), (10, .int (s_byPages C (nI (i)) (nI (d)))), (9, .int (s_balance C (nI (i)) (nI (d)))), (0, .ref (a 0)), (1, .ref (nn)), (3, .int (nI (d))), (4, .int ((zsum (fun x => s_balance C (nI x) (nI d)) (i)))), (5, .int (nI (zcnt (fun p => cSt C p = 1) (cP C)))), (6, .int (bI (AT C (cP C)))), (7, .int (nI (1))), (8, .int (nI (i)))]) B dL_holdsAll_322 (by decide) rfl ?_
  refine z_iload B 6 dL_holdsAll_324 rfl ?_
  refine z_iload B 2 dL_holdsAll_326 rfl ?_
  refine z_iadd B dL_holdsAll_328 ?_
  refine z_istore (lv1 := [(4, .int (((zsum (fun x => s_balance C (nI x) (nI d)) (i)) + (s_balance C (nI (i)) (nI (d)))))), (11, .int (s_byCopies C (nI (i)) (nI (d)))), (10, .int (s_byPages C (nI (i)) (nI (d)))), (9, .int (s_balance C (nI (i)) (nI (d)))), (0, .ref (a 0)), (1, .ref (nn)), (3, .int (nI (d))), (5, .int (nI (zcnt (fun p => cSt C p = 1) (cP C)))), (6, .int (bI (AT C (cP C)))), (7, .int (nI (1))), (8, .int (nI (i)))]) B dL_holdsAll_329 (by decide) rfl ?_
  refine z_iload B 1 dL_holdsAll_331 rfl ?_
  refine z_iload B 3 dL_holdsAll_333 rfl ?_
  refine z_icmp_eq B 350 dL_holdsAll_335 (by decide) (fun c335 => ?_) (fun c335 => ?_)
  · refine z_loc [4, 5, 6, 0, 7, 8, 9, 10, 3, 2] (lv' := [(0, .ref (a 0)), (1, .ref (nn)), (3, .int (nI (d))), (4, .int (((zsum (fun x => s_balance C (nI x) (nI d)) (i)) + (s_balance C (nI (i)) (nI (d)))))), (5, .int (nI (zcnt (fun p => cSt C p = 1) (cP C)))), (6, .int (bI (AT C (cP C)))), (7, .int (nI (1))), (8, .int (nI (i))), (9, .int (s_balance C (nI (i)) (nI (d)))), (10, .int (s_byPages C (nI (i)) (nI (d))))]) rfl ?_
    refine z_lvc (lv' := [(0, .ref (a 0)), (1, .ref (nn)), (3, .int (nI (d))), (4, .int ((zsum (fun x => s_balance C (nI x) (nI d)) (i + 1)))), (5, .int (nI (zcnt (fun p => cSt C p = 1) (cP C)))), (6, .int (bI (AT C (cP C)))), (7, .int (nI (1))), (8, .int (nI (i))), (9, .int ((s_balance C (nI i) (nI d)))), (10, .int ((s_byPages C (nI i) (nI d))))]) (by rfl) ?_
    exact ha_B350 Hb hV hf0 d hd i hi (k + 8) (n + 48) KB NB hKB hNB (by omega) (by omega) kk
  · refine z_iload B 1 dL_holdsAll_338 rfl ?_
    refine z_ldc (v := (-2000000003)) B 2 rfl dL_holdsAll_340 ?_
    refine z_icmp_ne B 366 dL_holdsAll_342 (by decide) (fun q => absurd ((hcp.resolve_left c335).1) q) (fun _ => ?_)
    refine z_iload B 8 dL_holdsAll_345 rfl ?_
    refine z_ifB_ne B 366 dL_holdsAll_347 (by decide) (fun q => absurd q (hcp.resolve_left c335).2) (fun _ => ?_)
    refine z_loc [4, 5, 6, 0, 7, 8, 9, 10, 3, 2] (lv' := [(0, .ref (a 0)), (1, .ref (nn)), (3, .int (nI (d))), (4, .int (((zsum (fun x => s_balance C (nI x) (nI d)) (i)) + (s_balance C (nI (i)) (nI (d)))))), (5, .int (nI (zcnt (fun p => cSt C p = 1) (cP C)))), (6, .int (bI (AT C (cP C)))), (7, .int (nI (1))), (8, .int (nI (i))), (9, .int (s_balance C (nI (i)) (nI (d)))), (10, .int (s_byPages C (nI (i)) (nI (d))))]) rfl ?_
    refine z_lvc (lv' := [(0, .ref (a 0)), (1, .ref (nn)), (3, .int (nI (d))), (4, .int ((zsum (fun x => s_balance C (nI x) (nI d)) (i + 1)))), (5, .int (nI (zcnt (fun p => cSt C p = 1) (cP C)))), (6, .int (bI (AT C (cP C)))), (7, .int (nI (1))), (8, .int (nI (i))), (9, .int ((s_balance C (nI i) (nI d)))), (10, .int ((s_byPages C (nI i) (nI d))))]) (by rfl) ?_
    exact ha_B350 Hb hV hf0 d hd i hi (k + 8) (n + 48) KB NB hKB hNB (by omega) (by omega) kk
set_option maxHeartbeats 4000000 in
set_option maxRecDepth 100000 in
theorem ha_B {X : zX} {l : Launch} {D : va_G} {g : zG} {A : Nat → Prop} {a : Nat → Nat} {C : zMS} {f : Nat → Int32} {nn : Nat} (Hb : haB X l D g A a C f nn) (hV : KV C) (hf0 : f 0 = nI (cM C)) (d : Nat) (hd : d ≤ cT C) : ∀ (u i k n : Nat), i + u = 8 → k + (8 * u + 0) ≤ 7184 → n + (48 * u + 0) ≤ 43104 → zJ X 13 (zI1 D A (zs X)) (haQ X D g A a C f nn) ([(nn, .inl (g.1, 3, .inl f))] ++ wC g a C (4 * cM C)) k n [(0, .ref (a 0)), (1, .ref (nn)), (3, .int (nI (d))), (4, .int ((zsum (fun x => s_balance C (nI x) (nI d)) (i)))), (5, .int (nI (zcnt (fun p => cSt C p = 1) (cP C)))), (6, .int (bI (AT C (cP C)))), (7, .int (nI (1))), (8, .int (nI (i)))] 285 [] := by
  intro u
  induction u with
  | zero =>
    intro i k n hlp hk hn
    exact ha_Bo Hb hV hf0 d hd i (by omega) k n (by omega) (by omega)
  | succ u ih =>
    intro i k n hlp hk hn
    exact ha_Bi Hb hV hf0 d hd i (by omega) k n (k + 8) (n + 48) (by omega) (by omega) (Nat.le_refl _) (Nat.le_refl _) (fun k2 n2 h1 h2 => ih (i + 1) k2 n2 (by omega) (by omega) (by omega))

set_option maxHeartbeats 4000000 in
set_option maxRecDepth 100000 in
theorem ha_Ao {X : zX} {l : Launch} {D : va_G} {g : zG} {A : Nat → Prop} {a : Nat → Nat} {C : zMS} {f : Nat → Int32} {nn : Nat} (Hb : haB X l D g A a C f nn) (hV : KV C) (hf0 : f 0 = nI (cM C)) (j d : Nat) (hj : j < 2 ^ 31) (hd : d ≤ cT C) (i : Nat) (hi : i = cP C) (k n : Nat) (hk : k + 64 ≤ 7184) (hn : n + 384 ≤ 43104) : zJ X 13 (zI1 D A (zs X)) (haQ X D g A a C f nn) ([(nn, .inl (g.1, 3, .inl f))] ++ wC g a C (4 * cM C)) k n [(0, .ref (a 0)), (1, .ref (nn)), (2, .int (nI (j))), (3, .int (nI (d))), (4, .int (nI (0))), (5, .int (nI (zcnt (fun p => cSt C p = 1) (i)))), (6, .int (bI (AT C (i)))), (7, .int (nI (1))), (8, .int (nI (i)))] 24 [] := by
  obtain ⟨hAe, hl, B, hr, hLF, hst⟩ := id Hb
  have hI := KV_I hV
  have hJ := KV_J hV
  have bP := CI_b19 hI
  have bM := CI_b20 hI
  have bK := CI_b22 hI
  have bT := CI_b0 hI
  refine z_iload B 8 dL_holdsAll_24 rfl ?_
  refine z_aload_n B 0 dL_holdsAll_26 rfl rfl ?_
  refine z_callP (As := []) (st := [.int (nI (i))]) (C := RX6) (T := TX6) (N := 6) (ci := 6) (l := l) B hl (cc_X6_pages l D g a C (4 * cM C) hI) gL_holdsAll_X6_pages rfl ⟨rfl, rfl⟩ nm_X6_pages ⟨by decide, by decide⟩ (fun _ h => sub_r h) 0 rfl rfl rfl (Nat.le_of_ble_eq_true rfl) dL_holdsAll_27 (show k ≤ 7184 by omega) (show n ≤ 43104 by omega) (fun r hr1 => ?_)
  obtain rfl := hr1
  refine z_icmpN_ge B 282 dL_holdsAll_30 (by decide) (by omega) (by omega) (fun _ => ?_) (fun q => absurd q (by omega))
  refine z_iconst (v := nI 0) B dL_holdsAll_282 (by decide) ?_
  refine z_istore (lv1 := [(8, .int (nI (0))), (0, .ref (a 0)), (1, .ref (nn)), (2, .int (nI (j))), (3, .int (nI (d))), (4, .int (nI (0))), (5, .int (nI (zcnt (fun p => cSt C p = 1) (i)))), (6, .int (bI (AT C (i)))), (7, .int (nI (1)))]) B dL_holdsAll_283 (by decide) rfl ?_
  refine z_loc [1, 2, 4, 5, 6, 7, 8, 0] (lv' := [(0, .ref (a 0)), (1, .ref (nn)), (3, .int (nI (d))), (4, .int (nI (0))), (5, .int (nI (zcnt (fun p => cSt C p = 1) (i)))), (6, .int (bI (AT C (i)))), (7, .int (nI (1))), (8, .int (nI (0)))]) rfl ?_
  refine z_lvc (lv' := [(0, .ref (a 0)), (1, .ref (nn)), (3, .int (nI (d))), (4, .int ((zsum (fun x => s_balance C (nI x) (nI d)) (0)))), (5, .int (nI (zcnt (fun p => cSt C p = 1) (cP C)))), (6, .int (bI (AT C (cP C)))), (7, .int (nI (1))), (8, .int (nI (0)))]) (by subst hi; rfl) ?_
  exact ha_B Hb hV hf0 d hd 8 0 (k) (n) (by omega) (by omega) (by omega)
