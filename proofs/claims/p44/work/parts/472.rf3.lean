/-! the law's refuses -/
set_option maxHeartbeats 4000000 in
set_option maxRecDepth 100000 in
theorem rf_110b {X : zX} {l : Launch} {D : va_G} {g : zG} {A : Nat → Prop} {a : Nat → Nat} {C : zMS} {f : Nat → Int32} {nn : Nat} (Hb : rfB X l D g A a C f nn) (hV : KV C) (hf0 : f 0 = nI (cM C)) (hf1 : f 1 = nI (cK C)) (j : Nat) (hj : j < 9973) (acc pg cp ls : Int32) (hacc : ¬ rng acc 8) (hpg : ¬ rng pg (cP C)) (hcp : ¬ cCx C cp) (hls : ¬ rng ls (cK C)) (k n : Nat) (hk : k + 239 ≤ 278) (hn : n + 2200 ≤ 2817) : zJ X 12 (zI1 D A (zs X)) (rfQ X D g A a C f nn) ([(nn, .inl (g.1, 3, .inl f))] ++ wC g a C (4 * cM C)) k n [(0, .ref (a 0)), (1, .ref (nn)), (2, .int (nI (j))), (4, .int (acc)), (5, .int (pg)), (6, .int (cp)), (7, .int (ls)), (8, .int (nI (j % 8)))] 312 [] := by
  obtain ⟨hAe, hl, B, hr, hLF, hst⟩ := id Hb
  have hI := KV_I hV
  have hJ := KV_J hV
  have bP := CI_b19 hI
  have bM := CI_b20 hI
  have bK := CI_b22 hI
  have bT := CI_b0 hI
  have hhere : rng (nI (j % 8)) 8 := rn_in (x := j % 8) (n := 8) (by omega)
  refine z_aload_n B 0 dL_refuses_312 rfl rfl ?_
  refine z_iload B 6 dL_refuses_313 rfl ?_
  refine z_callW (As := [.ref (a 0), .int (ls)]) (st := [])  B hLF hl (fo_closes l D g a C hst hI ls) gL_refuses_L_closes rfl ⟨rfl, rfl⟩ nm_L_closes ⟨by decide, by decide⟩ rfl (Nat.le_of_ble_eq_true rfl) dL_refuses_315 (by omega) (by omega) (show k + 2 ≤ 278 by omega) (show n + 12 ≤ 2817 by omega) (fun r w1 hpq => ?_)
  obtain ⟨rfl, rfl⟩ := pPost_at (o_closes_0 hls) hpq
  refine z_ldc (v := (-2000000001)) B 1 rfl dL_refuses_318 ?_
  refine z_icmp_ne B 607 dL_refuses_320 (by decide) (fun q => absurd rfl q) (fun _ => ?_)
  refine z_aload_n B 0 dL_refuses_323 rfl rfl ?_
  refine z_iload B 6 dL_refuses_324 rfl ?_
  refine z_iconst (v := nI 0) B dL_refuses_326 (by decide) ?_
  refine z_iconst (v := nI 5) B dL_refuses_327 (by decide) ?_
  refine z_iconst (v := nI 4) B dL_refuses_328 (by decide) ?_
  refine z_callW (As := [.ref (a 0), .int (ls), .int (nI (0)), .int (nI (5)), .int (nI (4))]) (st := [])  B hLF hl (fo_holds l D g a C hst hI ls (nI (0)) (nI (5)) (nI (4))) gL_refuses_L_holds rfl ⟨rfl, rfl⟩ nm_L_holds ⟨by decide, by decide⟩ rfl (Nat.le_of_ble_eq_true rfl) dL_refuses_329 (by omega) (by omega) (show k + 5 ≤ 278 by omega) (show n + 30 ≤ 2817 by omega) (fun r w1 hpq => ?_)
  obtain ⟨rfl, rfl⟩ := pPost_at (o_holds_0 hls) hpq
  refine z_ldc (v := (-2000000001)) B 1 rfl dL_refuses_332 ?_
  refine z_icmp_ne B 607 dL_refuses_334 (by decide) (fun q => absurd rfl q) (fun _ => ?_)
  refine z_aload_n B 0 dL_refuses_337 rfl rfl ?_
  refine z_iload B 6 dL_refuses_338 rfl ?_
  refine z_iconst (v := nI 0) B dL_refuses_340 (by decide) ?_
  refine z_callW (As := [.ref (a 0), .int (ls), .int (nI (0))]) (st := [])  B hLF hl (fo_strikes l D g a C hst hI ls (nI (0))) gL_refuses_L_strikes rfl ⟨rfl, rfl⟩ nm_L_strikes ⟨by decide, by decide⟩ rfl (Nat.le_of_ble_eq_true rfl) dL_refuses_341 (by omega) (by omega) (show k + 8 ≤ 278 by omega) (show n + 48 ≤ 2817 by omega) (fun r w1 hpq => ?_)
  obtain ⟨rfl, rfl⟩ := pPost_at (o_strikes_0 hls) hpq
  refine z_ldc (v := (-2000000001)) B 1 rfl dL_refuses_344 ?_
  refine z_icmp_ne B 607 dL_refuses_346 (by decide) (fun q => absurd rfl q) (fun _ => ?_)
  refine z_aload_n B 0 dL_refuses_349 rfl rfl ?_
  refine z_iload B 4 dL_refuses_350 rfl ?_
  refine z_callW (As := [.ref (a 0), .int (pg)]) (st := [])  B hLF hl (fo_state l D g a C hst hI pg) gL_refuses_L_state rfl ⟨rfl, rfl⟩ nm_L_state ⟨by decide, by decide⟩ rfl (Nat.le_of_ble_eq_true rfl) dL_refuses_352 (by omega) (by omega) (show k + 9 ≤ 278 by omega) (show n + 54 ≤ 2817 by omega) (fun r w1 hpq => ?_)
  obtain ⟨rfl, rfl⟩ := rPost_at (show s_state C pg = (-2000000001) from s_state_0 hpg) hpq
  refine z_ldc (v := (-2000000001)) B 1 rfl dL_refuses_355 ?_
  refine z_icmp_ne B 607 dL_refuses_357 (by decide) (fun q => absurd rfl q) (fun _ => ?_)
  refine z_aload_n B 0 dL_refuses_360 rfl rfl ?_
  refine z_iload B 4 dL_refuses_361 rfl ?_
  refine z_callW (As := [.ref (a 0), .int (pg)]) (st := [])  B hLF hl (fo_isTrue l D g a C hst hI pg) gL_refuses_L_isTrue rfl ⟨rfl, rfl⟩ nm_L_isTrue ⟨by decide, by decide⟩ rfl (Nat.le_of_ble_eq_true rfl) dL_refuses_363 (by omega) (by omega) (show k + 10 ≤ 278 by omega) (show n + 60 ≤ 2817 by omega) (fun r w1 hpq => ?_)
  obtain ⟨rfl, rfl⟩ := rPost_at (show s_isTrue C pg = (-2000000001) from s_isTrue_0 hpg) hpq
  refine z_ldc (v := (-2000000001)) B 1 rfl dL_refuses_366 ?_
  refine z_icmp_ne B 607 dL_refuses_368 (by decide) (fun q => absurd rfl q) (fun _ => ?_)
  refine z_aload_n B 0 dL_refuses_371 rfl rfl ?_
  refine z_iload B 4 dL_refuses_372 rfl ?_
  refine z_callW (As := [.ref (a 0), .int (pg)]) (st := [])  B hLF hl (fo_text l D g a C hst hI pg) gL_refuses_L_text rfl ⟨rfl, rfl⟩ nm_L_text ⟨by decide, by decide⟩ rfl (Nat.le_of_ble_eq_true rfl) dL_refuses_374 (by omega) (by omega) (show k + 11 ≤ 278 by omega) (show n + 66 ≤ 2817 by omega) (fun r w1 hpq => ?_)
  obtain ⟨rfl, rfl⟩ := rPost_at (show s_text C pg = (-2000000001) from s_text_0 hpg) hpq
  refine z_ldc (v := (-2000000001)) B 1 rfl dL_refuses_377 ?_
  refine z_icmp_ne B 607 dL_refuses_379 (by decide) (fun q => absurd rfl q) (fun _ => ?_)
  refine z_aload_n B 0 dL_refuses_382 rfl rfl ?_
  refine z_iload B 4 dL_refuses_383 rfl ?_
  refine z_callW (As := [.ref (a 0), .int (pg)]) (st := [])  B hLF hl (fo_mark l D g a C hst hI pg) gL_refuses_L_mark rfl ⟨rfl, rfl⟩ nm_L_mark ⟨by decide, by decide⟩ rfl (Nat.le_of_ble_eq_true rfl) dL_refuses_385 (by omega) (by omega) (show k + 12 ≤ 278 by omega) (show n + 72 ≤ 2817 by omega) (fun r w1 hpq => ?_)
  obtain ⟨rfl, rfl⟩ := rPost_at (show s_mark C pg = (-2000000001) from s_mark_0 hpg) hpq
  refine z_ldc (v := (-2000000001)) B 1 rfl dL_refuses_388 ?_
  refine z_icmp_ne B 607 dL_refuses_390 (by decide) (fun q => absurd rfl q) (fun _ => ?_)
  refine z_aload_n B 0 dL_refuses_393 rfl rfl ?_
  refine z_iload B 4 dL_refuses_394 rfl ?_
  refine z_callW (As := [.ref (a 0), .int (pg)]) (st := [])  B hLF hl (fo_reversal l D g a C hst hI pg) gL_refuses_L_reversal rfl ⟨rfl, rfl⟩ nm_L_reversal ⟨by decide, by decide⟩ rfl (Nat.le_of_ble_eq_true rfl) dL_refuses_396 (by omega) (by omega) (show k + 13 ≤ 278 by omega) (show n + 78 ≤ 2817 by omega) (fun r w1 hpq => ?_)
  obtain ⟨rfl, rfl⟩ := rPost_at (show s_reversal C pg = (-2000000001) from s_reversal_0 hpg) hpq
  refine z_ldc (v := (-2000000001)) B 1 rfl dL_refuses_399 ?_
  refine z_icmp_ne B 607 dL_refuses_401 (by decide) (fun q => absurd rfl q) (fun _ => ?_)
  refine z_aload_n B 0 dL_refuses_404 rfl rfl ?_
  refine z_iload B 4 dL_refuses_405 rfl ?_
  refine z_iconst (v := (-1)) B dL_refuses_407 (by decide) ?_
  refine z_callW (As := [.ref (a 0), .int (pg), .int ((-1))]) (st := [])  B hLF hl (fo_proves l D g a C hst hI pg (-1)) gL_refuses_L_proves rfl ⟨rfl, rfl⟩ nm_L_proves ⟨by decide, by decide⟩ rfl (Nat.le_of_ble_eq_true rfl) dL_refuses_408 (by omega) (by omega) (show k + 15 ≤ 278 by omega) (show n + 90 ≤ 2817 by omega) (fun r w1 hpq => ?_)
  obtain ⟨rfl, rfl⟩ := rPost_at (show s_proves C pg (-1) = (-2000000001) from s_proves_0 hpg) hpq
  refine z_ldc (v := (-2000000001)) B 1 rfl dL_refuses_411 ?_
  refine z_icmp_ne B 607 dL_refuses_413 (by decide) (fun q => absurd rfl q) (fun _ => ?_)
  refine z_aload_n B 0 dL_refuses_416 rfl rfl ?_
  refine z_iload B 4 dL_refuses_417 rfl ?_
  refine z_iconst (v := nI 0) B dL_refuses_419 (by decide) ?_
  refine z_callW (As := [.ref (a 0), .int (pg), .int (nI (0))]) (st := [])  B hLF hl (fo_proven l D g a C hst hI pg (nI (0))) gL_refuses_L_proven rfl ⟨rfl, rfl⟩ nm_L_proven ⟨by decide, by decide⟩ rfl (Nat.le_of_ble_eq_true rfl) dL_refuses_420 (by omega) (by omega) (show k + 17 ≤ 278 by omega) (show n + 102 ≤ 2817 by omega) (fun r w1 hpq => ?_)
  obtain ⟨rfl, rfl⟩ := rPost_at (show s_proven C pg (nI (0)) = (-2000000001) from s_proven_0 hpg) hpq
  refine z_ldc (v := (-2000000001)) B 1 rfl dL_refuses_423 ?_
  refine z_icmp_ne B 607 dL_refuses_425 (by decide) (fun q => absurd rfl q) (fun _ => ?_)
  refine z_aload_n B 0 dL_refuses_428 rfl rfl ?_
  refine z_iload B 3 dL_refuses_429 rfl ?_
  refine z_iconst (v := (-1)) B dL_refuses_431 (by decide) ?_
  refine z_callW (As := [.ref (a 0), .int (acc), .int ((-1))]) (st := [])  B hLF hl (fo_balance l D g a C hst hI acc (-1)) gL_refuses_L_balance rfl ⟨rfl, rfl⟩ nm_L_balance ⟨by decide, by decide⟩ rfl (Nat.le_of_ble_eq_true rfl) dL_refuses_432 (by omega) (by omega) (show k + 19 ≤ 278 by omega) (show n + 114 ≤ 2817 by omega) (fun r w1 hpq => ?_)
  obtain ⟨rfl, rfl⟩ := rPost_at (show s_balance C acc (-1) = (-2000000001) from s_balance_0 hacc) hpq
  refine z_ldc (v := (-2000000001)) B 1 rfl dL_refuses_435 ?_
  refine z_icmp_ne B 607 dL_refuses_437 (by decide) (fun q => absurd rfl q) (fun _ => ?_)
  refine z_aload_n B 0 dL_refuses_440 rfl rfl ?_
  refine z_iload B 7 dL_refuses_441 rfl ?_
  refine z_aload_n B 0 dL_refuses_443 rfl rfl ?_
  refine z_callP (As := []) (st := [.int (nI (j % 8)), .ref (a 0)]) (C := RX6) (T := TX6) (N := 6) (ci := 6) (l := l) B hl (cc_X6_day l D g a C (4 * cM C) hI) gL_refuses_X6_day rfl ⟨rfl, rfl⟩ nm_X6_day ⟨by decide, by decide⟩ (fun _ h => sub_r h) 0 rfl rfl rfl (Nat.le_of_ble_eq_true rfl) dL_refuses_444 (show k + 19 ≤ 278 by omega) (show n + 114 ≤ 2817 by omega) (fun r hr1 => ?_)
  obtain rfl := hr1
  refine z_iconst (v := nI 1) B dL_refuses_447 (by decide) ?_
  refine z_iaddN B dL_refuses_448 ?_
  refine z_iload_n B 2 dL_refuses_449 rfl rfl ?_
  refine z_iaddN B dL_refuses_450 ?_
  refine z_callW (As := [.ref (a 0), .int (nI (j % 8)), .int (nI (cT C + 1 + j))]) (st := [])  B hLF hl (fo_balance l D g a C hst hI (nI (j % 8)) (nI (cT C + 1 + j))) gL_refuses_L_balance rfl ⟨rfl, rfl⟩ nm_L_balance ⟨by decide, by decide⟩ rfl (Nat.le_of_ble_eq_true rfl) dL_refuses_451 (by omega) (by omega) (show k + 21 ≤ 278 by omega) (show n + 126 ≤ 2817 by omega) (fun r w1 hpq => ?_)
  obtain ⟨rfl, rfl⟩ := rPost_at (show s_balance C (nI (j % 8)) (nI (cT C + 1 + j)) = (-2000000002) from s_balance_1 hhere (rn_no (by omega) (by omega) (by omega))) hpq
  refine z_ldc (v := (-2000000002)) B 2 rfl dL_refuses_454 ?_
  refine z_icmp_ne B 607 dL_refuses_456 (by decide) (fun q => absurd rfl q) (fun _ => ?_)
  refine z_aload_n B 0 dL_refuses_459 rfl rfl ?_
  refine z_iload B 7 dL_refuses_460 rfl ?_
  refine z_iconst (v := (-1)) B dL_refuses_462 (by decide) ?_
  refine z_iload_n B 2 dL_refuses_463 rfl rfl ?_
  refine z_isub B dL_refuses_464 ?_
  refine z_callW (As := [.ref (a 0), .int (nI (j % 8)), .int (((-1) - (nI (j))))]) (st := [])  B hLF hl (fo_byPages l D g a C hst hI (nI (j % 8)) ((-1) - (nI (j)))) gL_refuses_L_byPages rfl ⟨rfl, rfl⟩ nm_L_byPages ⟨by decide, by decide⟩ rfl (Nat.le_of_ble_eq_true rfl) dL_refuses_465 (by omega) (by omega) (show k + 24 ≤ 278 by omega) (show n + 144 ≤ 2817 by omega) (fun r w1 hpq => ?_)
  obtain ⟨rfl, rfl⟩ := rPost_at (show s_byPages C (nI (j % 8)) ((-1) - (nI (j))) = (-2000000002) from s_byPages_1 hhere (rng_lt0 (by omega) (i_m1s (by omega)))) hpq
  refine z_ldc (v := (-2000000002)) B 2 rfl dL_refuses_468 ?_
  refine z_icmp_ne B 607 dL_refuses_470 (by decide) (fun q => absurd rfl q) (fun _ => ?_)
  refine z_aload_n B 0 dL_refuses_473 rfl rfl ?_
  refine z_iload B 3 dL_refuses_474 rfl ?_
  refine z_iconst (v := nI 0) B dL_refuses_476 (by decide) ?_
  refine z_callW (As := [.ref (a 0), .int (acc), .int (nI (0))]) (st := [])  B hLF hl (fo_byCopies l D g a C hst hI acc (nI (0))) gL_refuses_L_byCopies rfl ⟨rfl, rfl⟩ nm_L_byCopies ⟨by decide, by decide⟩ rfl (Nat.le_of_ble_eq_true rfl) dL_refuses_477 (by omega) (by omega) (show k + 27 ≤ 278 by omega) (show n + 162 ≤ 2817 by omega) (fun r w1 hpq => ?_)
  obtain ⟨rfl, rfl⟩ := rPost_at (show s_byCopies C acc (nI (0)) = (-2000000001) from s_byCopies_0 hacc) hpq
  refine z_ldc (v := (-2000000001)) B 1 rfl dL_refuses_480 ?_
  refine z_icmp_ne B 607 dL_refuses_482 (by decide) (fun q => absurd rfl q) (fun _ => ?_)
  refine z_aload_n B 0 dL_refuses_485 rfl rfl ?_
  refine z_iload B 7 dL_refuses_486 rfl ?_
  refine z_aload_n B 0 dL_refuses_488 rfl rfl ?_
  refine z_callP (As := []) (st := [.int (nI (j % 8)), .ref (a 0)]) (C := RX6) (T := TX6) (N := 6) (ci := 6) (l := l) B hl (cc_X6_day l D g a C (4 * cM C) hI) gL_refuses_X6_day rfl ⟨rfl, rfl⟩ nm_X6_day ⟨by decide, by decide⟩ (fun _ h => sub_r h) 0 rfl rfl rfl (Nat.le_of_ble_eq_true rfl) dL_refuses_489 (show k + 27 ≤ 278 by omega) (show n + 162 ≤ 2817 by omega) (fun r hr1 => ?_)
  obtain rfl := hr1
  refine z_iconst (v := nI 1) B dL_refuses_492 (by decide) ?_
  refine z_iaddN B dL_refuses_493 ?_
  refine z_callW (As := [.ref (a 0), .int (nI (j % 8)), .int (nI (cT C + 1))]) (st := [])  B hLF hl (fo_byCopies l D g a C hst hI (nI (j % 8)) (nI (cT C + 1))) gL_refuses_L_byCopies rfl ⟨rfl, rfl⟩ nm_L_byCopies ⟨by decide, by decide⟩ rfl (Nat.le_of_ble_eq_true rfl) dL_refuses_494 (by omega) (by omega) (show k + 30 ≤ 278 by omega) (show n + 180 ≤ 2817 by omega) (fun r w1 hpq => ?_)
  obtain ⟨rfl, rfl⟩ := rPost_at (show s_byCopies C (nI (j % 8)) (nI (cT C + 1)) = (-2000000002) from s_byCopies_1 hhere (rn_no (by omega) (by omega) (by omega))) hpq
  refine z_ldc (v := (-2000000002)) B 2 rfl dL_refuses_497 ?_
  refine z_icmp_ne B 607 dL_refuses_499 (by decide) (fun q => absurd rfl q) (fun _ => ?_)
  refine z_aload_n B 0 dL_refuses_502 rfl rfl ?_
  refine z_iload B 5 dL_refuses_503 rfl ?_
  refine z_callW (As := [.ref (a 0), .int (cp)]) (st := [])  B hLF hl (fo_size l D g a C hst hI hJ cp) gL_refuses_L_size rfl ⟨rfl, rfl⟩ nm_L_size ⟨by decide, by decide⟩ rfl (Nat.le_of_ble_eq_true rfl) dL_refuses_505 (by omega) (by omega) (show k + 31 ≤ 278 by omega) (show n + 186 ≤ 2817 by omega) (fun r w1 hpq => ?_)
  obtain ⟨rfl, rfl⟩ := rPost_at (show s_size C cp = (-2000000001) from s_size_0 hcp) hpq
  refine z_ldc (v := (-2000000001)) B 1 rfl dL_refuses_508 ?_
  refine z_icmp_ne B 607 dL_refuses_510 (by decide) (fun q => absurd rfl q) (fun _ => ?_)
  refine z_aload_n B 0 dL_refuses_513 rfl rfl ?_
  refine z_iload B 5 dL_refuses_514 rfl ?_
  refine z_callW (As := [.ref (a 0), .int (cp)]) (st := [])  B hLF hl (fo_inVault l D g a C hst hI cp) gL_refuses_L_inVault rfl ⟨rfl, rfl⟩ nm_L_inVault ⟨by decide, by decide⟩ rfl (Nat.le_of_ble_eq_true rfl) dL_refuses_516 (by omega) (by omega) (show k + 32 ≤ 278 by omega) (show n + 192 ≤ 2817 by omega) (fun r w1 hpq => ?_)
  obtain ⟨rfl, rfl⟩ := rPost_at (show s_inVault C cp = (-2000000001) from s_inVault_0 hcp) hpq
  refine z_ldc (v := (-2000000001)) B 1 rfl dL_refuses_519 ?_
  refine z_icmp_ne B 607 dL_refuses_521 (by decide) (fun q => absurd rfl q) (fun _ => ?_)
  refine z_aload_n B 0 dL_refuses_524 rfl rfl ?_
  refine z_iload B 5 dL_refuses_525 rfl ?_
  refine z_iconst (v := nI 0) B dL_refuses_527 (by decide) ?_
  refine z_callW (As := [.ref (a 0), .int (cp), .int (nI (0))]) (st := [])  B hLF hl (fo_stands l D g a C hst hI cp (nI (0))) gL_refuses_L_stands rfl ⟨rfl, rfl⟩ nm_L_stands ⟨by decide, by decide⟩ rfl (Nat.le_of_ble_eq_true rfl) dL_refuses_528 (by omega) (by omega) (show k + 34 ≤ 278 by omega) (show n + 204 ≤ 2817 by omega) (fun r w1 hpq => ?_)
  obtain ⟨rfl, rfl⟩ := rPost_at (show s_stands C cp (nI (0)) = (-2000000001) from s_stands_0 hcp) hpq
  refine z_ldc (v := (-2000000001)) B 1 rfl dL_refuses_531 ?_
  refine z_icmp_ne B 607 dL_refuses_533 (by decide) (fun q => absurd rfl q) (fun _ => ?_)
  refine z_aload_n B 0 dL_refuses_536 rfl rfl ?_
  refine z_iload B 4 dL_refuses_537 rfl ?_
  refine z_callW (As := [.ref (a 0), .int (pg)]) (st := [])  B hLF hl (fo_copiesOf l D g a C hst hI pg) gL_refuses_L_copiesOf rfl ⟨rfl, rfl⟩ nm_L_copiesOf ⟨by decide, by decide⟩ rfl (Nat.le_of_ble_eq_true rfl) dL_refuses_539 (by omega) (by omega) (show k + 35 ≤ 278 by omega) (show n + 210 ≤ 2817 by omega) (fun r w1 hpq => ?_)
  obtain ⟨rfl, rfl⟩ := rPost_at (show s_copiesOf C pg = (-2000000001) from s_copiesOf_0 hpg) hpq
  refine z_ldc (v := (-2000000001)) B 1 rfl dL_refuses_542 ?_
  refine z_icmp_ne B 607 dL_refuses_544 (by decide) (fun q => absurd rfl q) (fun _ => ?_)
  refine z_aload_n B 0 dL_refuses_547 rfl rfl ?_
  refine z_iload B 5 dL_refuses_548 rfl ?_
  refine z_callW (As := [.ref (a 0), .int (cp)]) (st := [])  B hLF hl (fo_canRestore l D g a C hst hI hJ cp) gL_refuses_L_canRestore rfl ⟨rfl, rfl⟩ nm_L_canRestore ⟨by decide, by decide⟩ rfl (Nat.le_of_ble_eq_true rfl) dL_refuses_550 (by omega) (by omega) (show k + 36 ≤ 278 by omega) (show n + 216 ≤ 2817 by omega) (fun r w1 hpq => ?_)
  obtain ⟨rfl, rfl⟩ := rPost_at (show s_canRestore C cp = (-2000000001) from s_canRestore_0 hcp) hpq
  refine z_ldc (v := (-2000000001)) B 1 rfl dL_refuses_553 ?_
  refine z_icmp_ne B 607 dL_refuses_555 (by decide) (fun q => absurd rfl q) (fun _ => ?_)
  refine z_aload_n B 0 dL_refuses_558 rfl rfl ?_
  refine z_iload B 5 dL_refuses_559 rfl ?_
  refine z_callW (As := [.ref (a 0), .int (cp)]) (st := [])  B hLF hl (fo_audit l D g a C hst hI hJ cp) gL_refuses_L_audit rfl ⟨rfl, rfl⟩ nm_L_audit ⟨by decide, by decide⟩ rfl (Nat.le_of_ble_eq_true rfl) dL_refuses_561 (by omega) (by omega) (show k + 37 ≤ 278 by omega) (show n + 222 ≤ 2817 by omega) (fun r w1 hpq => ?_)
  obtain ⟨rfl, rfl⟩ := rPost_at (show s_audit C cp = (-2000000001) from s_audit_0 hcp) hpq
  refine z_ldc (v := (-2000000001)) B 1 rfl dL_refuses_564 ?_
  refine z_icmp_ne B 607 dL_refuses_566 (by decide) (fun q => absurd rfl q) (fun _ => ?_)
  refine z_aload_n B 0 dL_refuses_569 rfl rfl ?_
  refine z_iload B 6 dL_refuses_570 rfl ?_
  refine z_callW (As := [.ref (a 0), .int (ls)]) (st := [])  B hLF hl (fo_isOpen l D g a C hst hI ls) gL_refuses_L_isOpen rfl ⟨rfl, rfl⟩ nm_L_isOpen ⟨by decide, by decide⟩ rfl (Nat.le_of_ble_eq_true rfl) dL_refuses_572 (by omega) (by omega) (show k + 38 ≤ 278 by omega) (show n + 228 ≤ 2817 by omega) (fun r w1 hpq => ?_)
  obtain ⟨rfl, rfl⟩ := rPost_at (show s_isOpen C ls = (-2000000001) from s_isOpen_0 hls) hpq
  refine z_ldc (v := (-2000000001)) B 1 rfl dL_refuses_575 ?_
  refine z_icmp_ne B 607 dL_refuses_577 (by decide) (fun q => absurd rfl q) (fun _ => ?_)
  refine z_aload_n B 0 dL_refuses_580 rfl rfl ?_
  refine z_iload B 4 dL_refuses_581 rfl ?_
  refine z_callW (As := [.ref (a 0), .int (pg)]) (st := [])  B hLF hl (fo_holders l D g a C hst hI pg) gL_refuses_L_holders rfl ⟨rfl, rfl⟩ nm_L_holders ⟨by decide, by decide⟩ rfl (Nat.le_of_ble_eq_true rfl) dL_refuses_583 (by omega) (by omega) (show k + 39 ≤ 278 by omega) (show n + 234 ≤ 2817 by omega) (fun r w1 hpq => ?_)
  obtain ⟨rfl, rfl⟩ := rPost_at (show s_holders C pg = (-2000000001) from s_holders_0 hpg) hpq
  refine z_ldc (v := (-2000000001)) B 1 rfl dL_refuses_586 ?_
  refine z_icmp_ne B 607 dL_refuses_588 (by decide) (fun q => absurd rfl q) (fun _ => ?_)
  refine z_aload_n B 0 dL_refuses_591 rfl rfl ?_
  refine z_iload B 6 dL_refuses_592 rfl ?_
  refine z_iconst (v := nI 0) B dL_refuses_594 (by decide) ?_
  refine z_callW (As := [.ref (a 0), .int (ls), .int (nI (0))]) (st := [])  B hLF hl (fo_canStrike l D g a C hst hI ls (nI (0))) gL_refuses_L_canStrike rfl ⟨rfl, rfl⟩ nm_L_canStrike ⟨by decide, by decide⟩ rfl (Nat.le_of_ble_eq_true rfl) dL_refuses_595 (by omega) (by omega) (show k + 41 ≤ 278 by omega) (show n + 246 ≤ 2817 by omega) (fun r w1 hpq => ?_)
  obtain ⟨rfl, rfl⟩ := rPost_at (show s_canStrike C ls (nI (0)) = (-2000000001) from s_canStrike_0 hls) hpq
  refine z_ldc (v := (-2000000001)) B 1 rfl dL_refuses_598 ?_
  refine z_icmp_ne B 607 dL_refuses_600 (by decide) (fun q => absurd rfl q) (fun _ => ?_)
  refine z_iconst (v := nI 1) B dL_refuses_603 (by decide) ?_
  refine z_goto B 608 dL_refuses_604 (by decide) ?_
  refine z_istore (lv1 := [(9, .int (nI (1))), (0, .ref (a 0)), (1, .ref (nn)), (2, .int (nI (j))), (4, .int (acc)), (5, .int (pg)), (6, .int (cp)), (7, .int (ls)), (8, .int (nI (j % 8)))]) B dL_refuses_608 (by decide) rfl ?_
  refine z_iload B 0 dL_refuses_610 rfl ?_
  refine z_if_eq B 669 dL_refuses_612 (by decide) (fun h => absurd h (by decide)) (fun _ => ?_)
  refine z_aload_n B 2 dL_refuses_615 rfl rfl ?_
  refine z_iconst (v := nI 0) B dL_refuses_616 (by decide) ?_
  refine z_iald (g := f) (i := 0) B 0 0 rfl rfl (by omega) (by decide) dL_refuses_617 ?_
  refine z_top (y := nI (cM C)) hf0 ?_
  refine z_bipush (v := nI 16) B dL_refuses_618 (by decide) ?_
  refine z_icmpN_lt B 632 dL_refuses_620 (by decide) (by omega) (by omega) (fun c620 => ?_) (fun c620 => ?_)
  · refine z_loc [1, 2, 3, 4, 8] (lv' := [(0, .ref (a 0)), (1, .ref (nn)), (2, .int (nI (j))), (4, .int (acc)), (8, .int (nI (j % 8)))]) rfl ?_
    exact rf_632 Hb hV hf0 hf1 j hj acc hacc (k + 41) (n + 246) (by omega) (by omega)
  · refine z_aload_n B 1 dL_refuses_623 rfl rfl ?_
    refine z_callW (As := [.ref (a 0)]) (st := [])  B hLF hl (fo_copies_n l D g a C hst hI hJ (fun z => absurd z.1 (by omega))) gL_refuses_L_copies rfl ⟨rfl, rfl⟩ nm_L_copies ⟨by decide, by decide⟩ rfl (Nat.le_of_ble_eq_true rfl) dL_refuses_624 (by omega) (by omega) (show k + 46 ≤ 278 by omega) (show n + 659 ≤ 2817 by omega) (fun r w1 hpq => ?_)
    obtain ⟨rfl, rfl⟩ := hpq
    refine z_ldc (v := (-2000000003)) B 4 rfl dL_refuses_627 ?_
    refine z_icmp_ne B 669 dL_refuses_629 (by decide) (fun q => absurd rfl q) (fun _ => ?_)
    refine z_loc [1, 2, 3, 4, 8] (lv' := [(0, .ref (a 0)), (1, .ref (nn)), (2, .int (nI (j))), (4, .int (acc)), (8, .int (nI (j % 8)))]) rfl ?_
    exact rf_632 Hb hV hf0 hf1 j hj acc hacc (k + 46) (n + 659) (by omega) (by omega)
set_option maxHeartbeats 4000000 in
set_option maxRecDepth 100000 in
theorem rf_110 {X : zX} {l : Launch} {D : va_G} {g : zG} {A : Nat → Prop} {a : Nat → Nat} {C : zMS} {f : Nat → Int32} {nn : Nat} (Hb : rfB X l D g A a C f nn) (hV : KV C) (hf0 : f 0 = nI (cM C)) (hf1 : f 1 = nI (cK C)) (j : Nat) (hj : j < 9973) (acc pg cp ls : Int32) (hacc : ¬ rng acc 8) (hpg : ¬ rng pg (cP C)) (hcp : ¬ cCx C cp) (hls : ¬ rng ls (cK C)) (k n : Nat) (hk : k + 278 ≤ 278) (hn : n + 2817 ≤ 2817) : zJ X 12 (zI1 D A (zs X)) (rfQ X D g A a C f nn) ([(nn, .inl (g.1, 3, .inl f))] ++ wC g a C (4 * cM C)) k n [(0, .ref (a 0)), (1, .ref (nn)), (2, .int (nI (j))), (4, .int (acc)), (5, .int (pg)), (6, .int (cp)), (7, .int (ls)), (8, .int (nI (j % 8)))] 110 [] := by
  obtain ⟨hAe, hl, B, hr, hLF, hst⟩ := id Hb
  have hI := KV_I hV
  have hJ := KV_J hV
  have bP := CI_b19 hI
  have bM := CI_b20 hI
  have bK := CI_b22 hI
  have bT := CI_b0 hI
  have hhere : rng (nI (j % 8)) 8 := rn_in (x := j % 8) (n := 8) (by omega)
  refine z_aload_n B 0 dL_refuses_110 rfl rfl ?_
  refine z_iload B 3 dL_refuses_111 rfl ?_
  refine z_iconst (v := nI 0) B dL_refuses_113 (by decide) ?_
  refine z_callW (As := [.ref (a 0), .int (acc), .int (nI (0))]) (st := [])  B hLF hl (fo_legs l D g a C hst hI acc (nI (0))) gL_refuses_L_legs rfl ⟨rfl, rfl⟩ nm_L_legs ⟨by decide, by decide⟩ rfl (Nat.le_of_ble_eq_true rfl) dL_refuses_114 (by omega) (by omega) (show k + 3 ≤ 278 by omega) (show n + 18 ≤ 2817 by omega) (fun r w1 hpq => ?_)
  obtain ⟨rfl, rfl⟩ := pPost_at (o_legs_0 hacc) hpq
  refine z_ldc (v := (-2000000001)) B 1 rfl dL_refuses_117 ?_
  refine z_icmp_ne B 607 dL_refuses_119 (by decide) (fun q => absurd rfl q) (fun _ => ?_)
  refine z_aload_n B 0 dL_refuses_122 rfl rfl ?_
  refine z_iload B 7 dL_refuses_123 rfl ?_
  refine z_iconst (v := nI 0) B dL_refuses_125 (by decide) ?_
  refine z_callW (As := [.ref (a 0), .int (nI (j % 8)), .int (nI (0))]) (st := [])  B hLF hl (fo_legs l D g a C hst hI (nI (j % 8)) (nI (0))) gL_refuses_L_legs rfl ⟨rfl, rfl⟩ nm_L_legs ⟨by decide, by decide⟩ rfl (Nat.le_of_ble_eq_true rfl) dL_refuses_126 (by omega) (by omega) (show k + 6 ≤ 278 by omega) (show n + 36 ≤ 2817 by omega) (fun r w1 hpq => ?_)
  obtain ⟨rfl, rfl⟩ := pPost_at (o_legs_2 hhere ⟨by decide, by decide⟩ (not_not_intro rfl)) hpq
  refine z_ldc (v := (-2000000002)) B 2 rfl dL_refuses_129 ?_
  refine z_icmp_ne B 607 dL_refuses_131 (by decide) (fun q => absurd rfl q) (fun _ => ?_)
  refine z_aload_n B 0 dL_refuses_134 rfl rfl ?_
  refine z_iload B 7 dL_refuses_135 rfl ?_
  refine z_sipush (v := nI 10001) B dL_refuses_137 (by decide) ?_
  refine z_iload_n B 2 dL_refuses_140 rfl rfl ?_
  refine z_iaddN B dL_refuses_141 ?_
  refine z_callW (As := [.ref (a 0), .int (nI (j % 8)), .int (nI (10001 + j))]) (st := [])  B hLF hl (fo_legs l D g a C hst hI (nI (j % 8)) (nI (10001 + j))) gL_refuses_L_legs rfl ⟨rfl, rfl⟩ nm_L_legs ⟨by decide, by decide⟩ rfl (Nat.le_of_ble_eq_true rfl) dL_refuses_142 (by omega) (by omega) (show k + 9 ≤ 278 by omega) (show n + 54 ≤ 2817 by omega) (fun r w1 hpq => ?_)
  obtain ⟨rfl, rfl⟩ := pPost_at (o_legs_1 hhere (fun z => i_p4 (by omega) z.2)) hpq
  refine z_ldc (v := (-2000000002)) B 2 rfl dL_refuses_145 ?_
  refine z_icmp_ne B 607 dL_refuses_147 (by decide) (fun q => absurd rfl q) (fun _ => ?_)
  refine z_aload_n B 0 dL_refuses_150 rfl rfl ?_
  refine z_iload B 7 dL_refuses_151 rfl ?_
  refine z_sipush (v := (-10001)) B dL_refuses_153 (by decide) ?_
  refine z_iload_n B 2 dL_refuses_156 rfl rfl ?_
  refine z_isub B dL_refuses_157 ?_
  refine z_callW (As := [.ref (a 0), .int (nI (j % 8)), .int (((-10001) - (nI (j))))]) (st := [])  B hLF hl (fo_legs l D g a C hst hI (nI (j % 8)) ((-10001) - (nI (j)))) gL_refuses_L_legs rfl ⟨rfl, rfl⟩ nm_L_legs ⟨by decide, by decide⟩ rfl (Nat.le_of_ble_eq_true rfl) dL_refuses_158 (by omega) (by omega) (show k + 12 ≤ 278 by omega) (show n + 72 ≤ 2817 by omega) (fun r w1 hpq => ?_)
  obtain ⟨rfl, rfl⟩ := pPost_at (o_legs_1 hhere (fun z => i_m4 (by omega) z.1)) hpq
  refine z_ldc (v := (-2000000002)) B 2 rfl dL_refuses_161 ?_
  refine z_icmp_ne B 607 dL_refuses_163 (by decide) (fun q => absurd rfl q) (fun _ => ?_)
  refine z_aload_n B 0 dL_refuses_166 rfl rfl ?_
  refine z_sipush (v := nI 10000) B dL_refuses_167 (by decide) ?_
  refine z_iload_n B 2 dL_refuses_170 rfl rfl ?_
  refine z_iaddN B dL_refuses_171 ?_
  refine z_callW (As := [.ref (a 0), .int (nI (10000 + j))]) (st := [])  B hLF hl (fo_writes l D g a C hst hI (nI (10000 + j))) gL_refuses_L_writes rfl ⟨rfl, rfl⟩ nm_L_writes ⟨by decide, by decide⟩ rfl (Nat.le_of_ble_eq_true rfl) dL_refuses_172 (by omega) (by omega) (show k + 14 ≤ 278 by omega) (show n + 84 ≤ 2817 by omega) (fun r w1 hpq => ?_)
  obtain ⟨rfl, rfl⟩ := pPost_at (o_writes_0 (rn_no (by omega) (by omega) (by omega))) hpq
  refine z_ldc (v := (-2000000002)) B 2 rfl dL_refuses_175 ?_
  refine z_icmp_ne B 607 dL_refuses_177 (by decide) (fun q => absurd rfl q) (fun _ => ?_)
  refine z_aload_n B 0 dL_refuses_180 rfl rfl ?_
  refine z_iconst (v := (-1)) B dL_refuses_181 (by decide) ?_
  refine z_iload_n B 2 dL_refuses_182 rfl rfl ?_
  refine z_isub B dL_refuses_183 ?_
  refine z_callW (As := [.ref (a 0), .int (((-1) - (nI (j))))]) (st := [])  B hLF hl (fo_writes l D g a C hst hI ((-1) - (nI (j)))) gL_refuses_L_writes rfl ⟨rfl, rfl⟩ nm_L_writes ⟨by decide, by decide⟩ rfl (Nat.le_of_ble_eq_true rfl) dL_refuses_184 (by omega) (by omega) (show k + 16 ≤ 278 by omega) (show n + 96 ≤ 2817 by omega) (fun r w1 hpq => ?_)
  obtain ⟨rfl, rfl⟩ := pPost_at (o_writes_0 (rng_lt0 (by omega) (i_m1s (by omega)))) hpq
  refine z_ldc (v := (-2000000002)) B 2 rfl dL_refuses_187 ?_
  refine z_icmp_ne B 607 dL_refuses_189 (by decide) (fun q => absurd rfl q) (fun _ => ?_)
  refine z_aload_n B 0 dL_refuses_192 rfl rfl ?_
  refine z_iload B 4 dL_refuses_193 rfl ?_
  refine z_callW (As := [.ref (a 0), .int (pg)]) (st := [])  B hLF hl (fo_reverses l D g a C hst hI pg) gL_refuses_L_reverses rfl ⟨rfl, rfl⟩ nm_L_reverses ⟨by decide, by decide⟩ rfl (Nat.le_of_ble_eq_true rfl) dL_refuses_195 (by omega) (by omega) (show k + 18 ≤ 278 by omega) (show n + 108 ≤ 2817 by omega) (fun r w1 hpq => ?_)
  obtain ⟨rfl, rfl⟩ := pPost_at (o_reverses_0 hpg) hpq
  refine z_ldc (v := (-2000000001)) B 1 rfl dL_refuses_198 ?_
  refine z_icmp_ne B 607 dL_refuses_200 (by decide) (fun q => absurd rfl q) (fun _ => ?_)
  refine z_aload_n B 0 dL_refuses_203 rfl rfl ?_
  refine z_iload_n B 2 dL_refuses_204 rfl rfl ?_
  refine z_ineg B dL_refuses_205 ?_
  refine z_callW (As := [.ref (a 0), .int ((-(nI (j))))]) (st := [])  B hLF hl (fo_passes l D g a C hst hI (-(nI (j)))) gL_refuses_L_passes rfl ⟨rfl, rfl⟩ nm_L_passes ⟨by decide, by decide⟩ rfl (Nat.le_of_ble_eq_true rfl) dL_refuses_206 (by omega) (by omega) (show k + 19 ≤ 278 by omega) (show n + 114 ≤ 2817 by omega) (fun r w1 hpq => ?_)
  obtain ⟨rfl, rfl⟩ := pPost_at (o_passes_0 (fun z => i_neg (by omega) (Int32.not_lt.mp z.1))) hpq
  refine z_ldc (v := (-2000000002)) B 2 rfl dL_refuses_209 ?_
  refine z_icmp_ne B 607 dL_refuses_211 (by decide) (fun q => absurd rfl q) (fun _ => ?_)
  refine z_aload_n B 0 dL_refuses_214 rfl rfl ?_
  refine z_bipush (v := nI 101) B dL_refuses_215 (by decide) ?_
  refine z_iload_n B 2 dL_refuses_217 rfl rfl ?_
  refine z_iaddN B dL_refuses_218 ?_
  refine z_callW (As := [.ref (a 0), .int (nI (101 + j))]) (st := [])  B hLF hl (fo_passes l D g a C hst hI (nI (101 + j))) gL_refuses_L_passes rfl ⟨rfl, rfl⟩ nm_L_passes ⟨by decide, by decide⟩ rfl (Nat.le_of_ble_eq_true rfl) dL_refuses_219 (by omega) (by omega) (show k + 20 ≤ 278 by omega) (show n + 120 ≤ 2817 by omega) (fun r w1 hpq => ?_)
  obtain ⟨rfl, rfl⟩ := pPost_at (o_passes_0 (fun z => absurd ((nI_leI (by omega) (by omega)).mp z.2) (by omega))) hpq
  refine z_ldc (v := (-2000000002)) B 2 rfl dL_refuses_222 ?_
  refine z_icmp_ne B 607 dL_refuses_224 (by decide) (fun q => absurd rfl q) (fun _ => ?_)
  refine z_aload_n B 0 dL_refuses_227 rfl rfl ?_
  refine z_iload B 4 dL_refuses_228 rfl ?_
  refine z_iload B 4 dL_refuses_230 rfl ?_
  refine z_callW (As := [.ref (a 0), .int (pg), .int (pg)]) (st := [])  B hLF hl (fo_burns l D g a C hst hI pg pg) gL_refuses_L_burns rfl ⟨rfl, rfl⟩ nm_L_burns ⟨by decide, by decide⟩ rfl (Nat.le_of_ble_eq_true rfl) dL_refuses_232 (by omega) (by omega) (show k + 23 ≤ 278 by omega) (show n + 138 ≤ 2817 by omega) (fun r w1 hpq => ?_)
  obtain ⟨rfl, rfl⟩ := pPost_at (o_burns_0 hpg) hpq
  refine z_ldc (v := (-2000000001)) B 1 rfl dL_refuses_235 ?_
  refine z_icmp_ne B 607 dL_refuses_237 (by decide) (fun q => absurd rfl q) (fun _ => ?_)
  refine z_aload_n B 0 dL_refuses_240 rfl rfl ?_
  refine z_iload B 4 dL_refuses_241 rfl ?_
  refine z_bipush (v := nI 9) B dL_refuses_243 (by decide) ?_
  refine z_ldc (v := (99999)) B 3 rfl dL_refuses_245 ?_
  refine z_top (y := nI 99999) rfl ?_
  refine z_callW (As := [.ref (a 0), .int (pg), .int (nI (9)), .int (nI (99999))]) (st := [])  B hLF hl (fo_alters l D g a C hst hI pg (nI (9)) (nI (99999))) gL_refuses_L_alters rfl ⟨rfl, rfl⟩ nm_L_alters ⟨by decide, by decide⟩ rfl (Nat.le_of_ble_eq_true rfl) dL_refuses_247 (by omega) (by omega) (show k + 26 ≤ 278 by omega) (show n + 156 ≤ 2817 by omega) (fun r w1 hpq => ?_)
  obtain ⟨rfl, rfl⟩ := pPost_at (o_alters_0 hpg) hpq
  refine z_ldc (v := (-2000000001)) B 1 rfl dL_refuses_250 ?_
  refine z_icmp_ne B 607 dL_refuses_252 (by decide) (fun q => absurd rfl q) (fun _ => ?_)
  refine z_aload_n B 0 dL_refuses_255 rfl rfl ?_
  refine z_iload B 5 dL_refuses_256 rfl ?_
  refine z_callW (As := [.ref (a 0), .int (cp)]) (st := [])  B hLF hl (fo_copiesFrom_n l D g a C hst hI hJ cp hcp) gL_refuses_L_copiesFrom rfl ⟨rfl, rfl⟩ nm_L_copiesFrom ⟨by decide, by decide⟩ rfl (Nat.le_of_ble_eq_true rfl) dL_refuses_258 (by omega) (by omega) (show k + 32 ≤ 278 by omega) (show n + 575 ≤ 2817 by omega) (fun r w1 hpq => ?_)
  obtain ⟨rfl, rfl⟩ := hpq
  refine z_ldc (v := (-2000000001)) B 1 rfl dL_refuses_261 ?_
  refine z_icmp_ne B 607 dL_refuses_263 (by decide) (fun q => absurd rfl q) (fun _ => ?_)
  refine z_aload_n B 0 dL_refuses_266 rfl rfl ?_
  refine z_iload B 5 dL_refuses_267 rfl ?_
  refine z_iconst (v := nI 1) B dL_refuses_269 (by decide) ?_
  refine z_callW (As := [.ref (a 0), .int (cp), .int (nI (1))]) (st := [])  B hLF hl (fo_carries1 l D g a C hst hI hJ cp) gL_refuses_L_carries rfl ⟨rfl, rfl⟩ nm_L_carries ⟨by decide, by decide⟩ rfl (Nat.le_of_ble_eq_true rfl) dL_refuses_270 (by omega) (by omega) (show k + 33 ≤ 278 by omega) (show n + 581 ≤ 2817 by omega) (fun r w1 hpq => ?_)
  obtain ⟨rfl, rfl⟩ := pPost_at (o_carries1_0 hcp) hpq
  refine z_ldc (v := (-2000000001)) B 1 rfl dL_refuses_273 ?_
  refine z_icmp_ne B 607 dL_refuses_275 (by decide) (fun q => absurd rfl q) (fun _ => ?_)
  refine z_aload_n B 0 dL_refuses_278 rfl rfl ?_
  refine z_iload B 5 dL_refuses_279 rfl ?_
  refine z_iconst (v := nI 0) B dL_refuses_281 (by decide) ?_
  refine z_callW (As := [.ref (a 0), .int (cp), .int (nI (0))]) (st := [])  B hLF hl (fo_rots l D g a C hst hI cp (nI (0))) gL_refuses_L_rots rfl ⟨rfl, rfl⟩ nm_L_rots ⟨by decide, by decide⟩ rfl (Nat.le_of_ble_eq_true rfl) dL_refuses_282 (by omega) (by omega) (show k + 35 ≤ 278 by omega) (show n + 593 ≤ 2817 by omega) (fun r w1 hpq => ?_)
  obtain ⟨rfl, rfl⟩ := pPost_at (o_rots_0 hcp) hpq
  refine z_ldc (v := (-2000000001)) B 1 rfl dL_refuses_285 ?_
  refine z_icmp_ne B 607 dL_refuses_287 (by decide) (fun q => absurd rfl q) (fun _ => ?_)
  refine z_w (w' := [] ++ ((nn, .inl (g.1, 3, .inl f)) :: wC g a C (4 * cM C))) rfl ?_
  refine z_dist (fun hn => ?_)
  refine z_w (w' := [(nn, .inl (g.1, 3, .inl f))] ++ wC g a C (4 * cM C)) rfl ?_
  refine z_aload_n B 0 dL_refuses_290 rfl rfl ?_
  refine z_iload B 5 dL_refuses_291 rfl ?_
  refine z_callW (As := [.ref (a 0), .int (cp)]) (st := [])  B hLF hl (fo_throwsAway l D g a C hst hI hJ hn cp) gL_refuses_L_throwsAway rfl ⟨rfl, rfl⟩ nm_L_throwsAway ⟨by decide, by decide⟩ rfl (Nat.le_of_ble_eq_true rfl) dL_refuses_293 (by omega) (by omega) (show k + 37 ≤ 278 by omega) (show n + 605 ≤ 2817 by omega) (fun r w1 hpq => ?_)
  obtain ⟨rfl, rfl⟩ := pPost_at (o_throwsAway_0 hcp) hpq
  refine z_ldc (v := (-2000000001)) B 1 rfl dL_refuses_296 ?_
  refine z_icmp_ne B 607 dL_refuses_298 (by decide) (fun q => absurd rfl q) (fun _ => ?_)
  refine z_aload_n B 0 dL_refuses_301 rfl rfl ?_
  refine z_iload B 5 dL_refuses_302 rfl ?_
  refine z_callW (As := [.ref (a 0), .int (cp)]) (st := [])  B hLF hl (fo_restores l D g a C hst hI hJ cp) gL_refuses_L_restores rfl ⟨rfl, rfl⟩ nm_L_restores ⟨by decide, by decide⟩ rfl (Nat.le_of_ble_eq_true rfl) dL_refuses_304 (by omega) (by omega) (show k + 39 ≤ 278 by omega) (show n + 617 ≤ 2817 by omega) (fun r w1 hpq => ?_)
  obtain ⟨rfl, rfl⟩ := pPost_at (o_restores_0 hcp) hpq
  refine z_ldc (v := (-2000000001)) B 1 rfl dL_refuses_307 ?_
  refine z_icmp_ne B 607 dL_refuses_309 (by decide) (fun q => absurd rfl q) (fun _ => ?_)
  refine z_loc [0, 1, 2, 3, 4, 5, 6, 7] (lv' := [(0, .ref (a 0)), (1, .ref (nn)), (2, .int (nI (j))), (4, .int (acc)), (5, .int (pg)), (6, .int (cp)), (7, .int (ls)), (8, .int (nI (j % 8)))]) rfl ?_
  exact rf_110b Hb hV hf0 hf1 j hj acc pg cp ls hacc hpg hcp hls (k + 39) (n + 617) (by omega) (by omega)
set_option maxHeartbeats 4000000 in
set_option maxRecDepth 100000 in
theorem rf_lo {X : zX} {l : Launch} {D : va_G} {g : zG} {A : Nat → Prop} {a : Nat → Nat} {C : zMS} {f : Nat → Int32} {nn : Nat} (Hb : rfB X l D g A a C f nn) (hV : KV C) (hf0 : f 0 = nI (cM C)) (hf1 : f 1 = nI (cK C)) (j : Nat) (hj : j < 9973) (hx : j % 2 = 0) (k n : Nat) (hk : k + 278 ≤ 278) (hn : n + 2817 ≤ 2817) : zJ X 12 (zI1 D A (zs X)) (rfQ X D g A a C f nn) ([(nn, .inl (g.1, 3, .inl f))] ++ wC g a C (4 * cM C)) k n [(0, .ref (a 0)), (1, .ref (nn)), (2, .int (nI (j)))] 0 [] := by
  obtain ⟨hAe, hl, B, hr, hLF, hst⟩ := id Hb
  have hI := KV_I hV
  have hJ := KV_J hV
  have bP := CI_b19 hI
  have bM := CI_b20 hI
  have bK := CI_b22 hI
  have bT := CI_b0 hI
  have hneg : (-1 : Int32) - nI (j % 50) < 0 := i_m1s (by omega)
  have hneg8 : ¬ rng ((-1 : Int32) - nI (j % 50)) 8 := rng_lt0 (by omega) hneg
  refine z_iload_n B 2 dL_refuses_0 rfl rfl ?_
  refine z_iconst (v := nI 2) B dL_refuses_1 (by decide) ?_
  refine z_iremN B (by omega) (by omega) (by omega) dL_refuses_2 ?_
  refine z_ifN_ne B 10 dL_refuses_3 (by decide) (by omega) (fun q => absurd q (by omega)) (fun _ => ?_)
  refine z_iconst (v := nI 1) B dL_refuses_6 (by decide) ?_
  refine z_goto B 11 dL_refuses_7 (by decide) ?_
  refine z_istore_n (lv1 := [(3, .int (nI (1))), (0, .ref (a 0)), (1, .ref (nn)), (2, .int (nI (j)))]) B dL_refuses_11 rfl (by decide) rfl ?_
  refine z_iload_n B 0 dL_refuses_12 rfl rfl ?_
  refine z_if_eq B 25 dL_refuses_13 (by decide) (fun h => absurd h (by decide)) (fun _ => ?_)
  refine z_iconst (v := (-1)) B dL_refuses_16 (by decide) ?_
  refine z_iload_n B 3 dL_refuses_17 rfl rfl ?_
  refine z_bipush (v := nI 50) B dL_refuses_18 (by decide) ?_
  refine z_iremN B (by omega) (by omega) (by omega) dL_refuses_20 ?_
  refine z_isub B dL_refuses_21 ?_
  refine z_goto B 32 dL_refuses_22 (by decide) ?_
  refine z_istore (lv1 := [(4, .int (((-1) - (nI (j % 50))))), (3, .int (nI (1))), (0, .ref (a 0)), (1, .ref (nn)), (2, .int (nI (j)))]) B dL_refuses_32 (by decide) rfl ?_
  refine z_iload_n B 1 dL_refuses_34 rfl rfl ?_
  refine z_if_eq B 47 dL_refuses_35 (by decide) (fun h => absurd h (by decide)) (fun _ => ?_)
  refine z_iconst (v := (-1)) B dL_refuses_38 (by decide) ?_
  refine z_iload_n B 4 dL_refuses_39 rfl rfl ?_
  refine z_bipush (v := nI 50) B dL_refuses_40 (by decide) ?_
  refine z_iremN B (by omega) (by omega) (by omega) dL_refuses_42 ?_
  refine z_isub B dL_refuses_43 ?_
  refine z_goto B 56 dL_refuses_44 (by decide) ?_
  refine z_istore (lv1 := [(5, .int (((-1) - (nI (j % 50))))), (4, .int (((-1) - (nI (j % 50))))), (3, .int (nI (1))), (0, .ref (a 0)), (1, .ref (nn)), (2, .int (nI (j)))]) B dL_refuses_56 (by decide) rfl ?_
  refine z_iload_n B 2 dL_refuses_58 rfl rfl ?_
  refine z_if_eq B 71 dL_refuses_59 (by decide) (fun h => absurd h (by decide)) (fun _ => ?_)
  refine z_iconst (v := (-1)) B dL_refuses_62 (by decide) ?_
  refine z_iload_n B 5 dL_refuses_63 rfl rfl ?_
  refine z_bipush (v := nI 50) B dL_refuses_64 (by decide) ?_
  refine z_iremN B (by omega) (by omega) (by omega) dL_refuses_66 ?_
  refine z_isub B dL_refuses_67 ?_
  refine z_goto B 79 dL_refuses_68 (by decide) ?_
  refine z_istore (lv1 := [(6, .int (((-1) - (nI (j % 50))))), (5, .int (((-1) - (nI (j % 50))))), (4, .int (((-1) - (nI (j % 50))))), (3, .int (nI (1))), (0, .ref (a 0)), (1, .ref (nn)), (2, .int (nI (j)))]) B dL_refuses_79 (by decide) rfl ?_
  refine z_iload_n B 3 dL_refuses_81 rfl rfl ?_
  refine z_if_eq B 94 dL_refuses_82 (by decide) (fun h => absurd h (by decide)) (fun _ => ?_)
  refine z_iconst (v := (-1)) B dL_refuses_85 (by decide) ?_
  refine z_iload_n B 6 dL_refuses_86 rfl rfl ?_
  refine z_bipush (v := nI 50) B dL_refuses_87 (by decide) ?_
  refine z_iremN B (by omega) (by omega) (by omega) dL_refuses_89 ?_
  refine z_isub B dL_refuses_90 ?_
  refine z_goto B 102 dL_refuses_91 (by decide) ?_
  refine z_istore (lv1 := [(7, .int (((-1) - (nI (j % 50))))), (6, .int (((-1) - (nI (j % 50))))), (5, .int (((-1) - (nI (j % 50))))), (4, .int (((-1) - (nI (j % 50))))), (3, .int (nI (1))), (0, .ref (a 0)), (1, .ref (nn)), (2, .int (nI (j)))]) B dL_refuses_102 (by decide) rfl ?_
  refine z_iload_n B 7 dL_refuses_104 rfl rfl ?_
  refine z_bipush (v := nI 8) B dL_refuses_105 (by decide) ?_
  refine z_iremN B (by omega) (by omega) (by omega) dL_refuses_107 ?_
  refine z_istore (lv1 := [(8, .int (nI (j % 8))), (7, .int (((-1) - (nI (j % 50))))), (6, .int (((-1) - (nI (j % 50))))), (5, .int (((-1) - (nI (j % 50))))), (4, .int (((-1) - (nI (j % 50))))), (3, .int (nI (1))), (0, .ref (a 0)), (1, .ref (nn)), (2, .int (nI (j)))]) B dL_refuses_108 (by decide) rfl ?_
  refine z_loc [6, 7, 8, 4, 3, 2, 1, 0] (lv' := [(0, .ref (a 0)), (1, .ref (nn)), (2, .int (nI (j))), (4, .int (((-1) - (nI (j % 50))))), (5, .int (((-1) - (nI (j % 50))))), (6, .int (((-1) - (nI (j % 50))))), (7, .int (((-1) - (nI (j % 50))))), (8, .int (nI (j % 8)))]) rfl ?_
  refine z_lvc (lv' := [(0, .ref (a 0)), (1, .ref (nn)), (2, .int (nI (j))), (4, .int (((-1) - nI (j % 50)))), (5, .int (((-1) - nI (j % 50)))), (6, .int (((-1) - nI (j % 50)))), (7, .int (((-1) - nI (j % 50)))), (8, .int (nI (j % 8)))]) (by rfl) ?_
  exact rf_110 Hb hV hf0 hf1 j hj _ _ _ _ hneg8 (rng_lt0 (by omega) hneg) (cx_no (rng_lt0 (by omega) hneg)) (rng_lt0 (by omega) hneg) (k) (n) (by omega) (by omega)
set_option maxHeartbeats 4000000 in
set_option maxRecDepth 100000 in
theorem rf_hi {X : zX} {l : Launch} {D : va_G} {g : zG} {A : Nat → Prop} {a : Nat → Nat} {C : zMS} {f : Nat → Int32} {nn : Nat} (Hb : rfB X l D g A a C f nn) (hV : KV C) (hf0 : f 0 = nI (cM C)) (hf1 : f 1 = nI (cK C)) (j : Nat) (hj : j < 9973) (hx : j % 2 = 1) (k n : Nat) (hk : k + 278 ≤ 278) (hn : n + 2817 ≤ 2817) : zJ X 12 (zI1 D A (zs X)) (rfQ X D g A a C f nn) ([(nn, .inl (g.1, 3, .inl f))] ++ wC g a C (4 * cM C)) k n [(0, .ref (a 0)), (1, .ref (nn)), (2, .int (nI (j)))] 0 [] := by
  obtain ⟨hAe, hl, B, hr, hLF, hst⟩ := id Hb
  have hI := KV_I hV
  have hJ := KV_J hV
  have bP := CI_b19 hI
  have bM := CI_b20 hI
  have bK := CI_b22 hI
  have bT := CI_b0 hI
  refine z_iload_n B 2 dL_refuses_0 rfl rfl ?_
  refine z_iconst (v := nI 2) B dL_refuses_1 (by decide) ?_
  refine z_iremN B (by omega) (by omega) (by omega) dL_refuses_2 ?_
  refine z_ifN_ne B 10 dL_refuses_3 (by decide) (by omega) (fun _ => ?_) (fun q => absurd q (by omega))
  refine z_iconst (v := nI 0) B dL_refuses_10 (by decide) ?_
  refine z_istore_n (lv1 := [(3, .int (nI (0))), (0, .ref (a 0)), (1, .ref (nn)), (2, .int (nI (j)))]) B dL_refuses_11 rfl (by decide) rfl ?_
  refine z_iload_n B 0 dL_refuses_12 rfl rfl ?_
  refine z_if_eq B 25 dL_refuses_13 (by decide) (fun _ => ?_) (fun h => absurd h (by decide))
  refine z_bipush (v := nI 8) B dL_refuses_25 (by decide) ?_
  refine z_iload_n B 3 dL_refuses_27 rfl rfl ?_
  refine z_bipush (v := nI 50) B dL_refuses_28 (by decide) ?_
  refine z_iremN B (by omega) (by omega) (by omega) dL_refuses_30 ?_
  refine z_iaddN B dL_refuses_31 ?_
  refine z_istore (lv1 := [(4, .int (nI (8 + (j % 50)))), (3, .int (nI (0))), (0, .ref (a 0)), (1, .ref (nn)), (2, .int (nI (j)))]) B dL_refuses_32 (by decide) rfl ?_
  refine z_iload_n B 1 dL_refuses_34 rfl rfl ?_
  refine z_if_eq B 47 dL_refuses_35 (by decide) (fun _ => ?_) (fun h => absurd h (by decide))
  refine z_aload_n B 2 dL_refuses_47 rfl rfl ?_
  refine z_callP (As := []) (st := []) (C := RX6) (T := TX6) (N := 6) (ci := 6) (l := l) B hl (cc_X6_pages l D g a C (4 * cM C) hI) gL_refuses_X6_pages rfl ⟨rfl, rfl⟩ nm_X6_pages ⟨by decide, by decide⟩ (fun _ h => sub_r h) 0 rfl rfl rfl (Nat.le_of_ble_eq_true rfl) dL_refuses_48 (show k ≤ 278 by omega) (show n ≤ 2817 by omega) (fun r hr1 => ?_)
  obtain rfl := hr1
  refine z_iload_n B 4 dL_refuses_51 rfl rfl ?_
  refine z_bipush (v := nI 50) B dL_refuses_52 (by decide) ?_
  refine z_iremN B (by omega) (by omega) (by omega) dL_refuses_54 ?_
  refine z_iaddN B dL_refuses_55 ?_
  refine z_istore (lv1 := [(5, .int (nI (cP C + (j % 50)))), (4, .int (nI (8 + (j % 50)))), (3, .int (nI (0))), (0, .ref (a 0)), (1, .ref (nn)), (2, .int (nI (j)))]) B dL_refuses_56 (by decide) rfl ?_
  refine z_iload_n B 2 dL_refuses_58 rfl rfl ?_
  refine z_if_eq B 71 dL_refuses_59 (by decide) (fun _ => ?_) (fun h => absurd h (by decide))
  refine z_aload_n B 4 dL_refuses_71 rfl rfl ?_
  refine z_iconst (v := nI 0) B dL_refuses_72 (by decide) ?_
  refine z_iald (g := f) (i := 0) B 0 0 rfl rfl (by omega) (by decide) dL_refuses_73 ?_
  refine z_top (y := nI (cM C)) hf0 ?_
  refine z_iload_n B 5 dL_refuses_74 rfl rfl ?_
  refine z_bipush (v := nI 50) B dL_refuses_75 (by decide) ?_
  refine z_iremN B (by omega) (by omega) (by omega) dL_refuses_77 ?_
  refine z_iaddN B dL_refuses_78 ?_
  refine z_istore (lv1 := [(6, .int (nI (cM C + (j % 50)))), (5, .int (nI (cP C + (j % 50)))), (4, .int (nI (8 + (j % 50)))), (3, .int (nI (0))), (0, .ref (a 0)), (1, .ref (nn)), (2, .int (nI (j)))]) B dL_refuses_79 (by decide) rfl ?_
  refine z_iload_n B 3 dL_refuses_81 rfl rfl ?_
  refine z_if_eq B 94 dL_refuses_82 (by decide) (fun _ => ?_) (fun h => absurd h (by decide))
  refine z_aload_n B 5 dL_refuses_94 rfl rfl ?_
  refine z_iconst (v := nI 1) B dL_refuses_95 (by decide) ?_
  refine z_iald (g := f) (i := 1) B 0 0 rfl rfl (by omega) (by decide) dL_refuses_96 ?_
  refine z_top (y := nI (cK C)) hf1 ?_
  refine z_iload_n B 6 dL_refuses_97 rfl rfl ?_
  refine z_bipush (v := nI 50) B dL_refuses_98 (by decide) ?_
  refine z_iremN B (by omega) (by omega) (by omega) dL_refuses_100 ?_
  refine z_iaddN B dL_refuses_101 ?_
  refine z_istore (lv1 := [(7, .int (nI (cK C + (j % 50)))), (6, .int (nI (cM C + (j % 50)))), (5, .int (nI (cP C + (j % 50)))), (4, .int (nI (8 + (j % 50)))), (3, .int (nI (0))), (0, .ref (a 0)), (1, .ref (nn)), (2, .int (nI (j)))]) B dL_refuses_102 (by decide) rfl ?_
  refine z_iload_n B 7 dL_refuses_104 rfl rfl ?_
  refine z_bipush (v := nI 8) B dL_refuses_105 (by decide) ?_
  refine z_iremN B (by omega) (by omega) (by omega) dL_refuses_107 ?_
  refine z_istore (lv1 := [(8, .int (nI (j % 8))), (7, .int (nI (cK C + (j % 50)))), (6, .int (nI (cM C + (j % 50)))), (5, .int (nI (cP C + (j % 50)))), (4, .int (nI (8 + (j % 50)))), (3, .int (nI (0))), (0, .ref (a 0)), (1, .ref (nn)), (2, .int (nI (j)))]) B dL_refuses_108 (by decide) rfl ?_
  refine z_loc [6, 7, 8, 4, 3, 2, 1, 0] (lv' := [(0, .ref (a 0)), (1, .ref (nn)), (2, .int (nI (j))), (4, .int (nI (8 + (j % 50)))), (5, .int (nI (cP C + (j % 50)))), (6, .int (nI (cM C + (j % 50)))), (7, .int (nI (cK C + (j % 50)))), (8, .int (nI (j % 8)))]) rfl ?_
  refine z_lvc (lv' := [(0, .ref (a 0)), (1, .ref (nn)), (2, .int (nI (j))), (4, .int (nI (8 + j % 50))), (5, .int (nI (cP C + j % 50))), (6, .int (nI (cM C + j % 50))), (7, .int (nI (cK C + j % 50))), (8, .int (nI (j % 8)))]) (by rfl) ?_
  exact rf_110 Hb hV hf0 hf1 j hj _ _ _ _ (rn_no (by omega) (by omega) (by omega)) (rn_no (by omega) (by omega) (by omega)) (cx_no (rn_no (by omega) (by omega) (by omega))) (rn_no (by omega) (by omega) (by omega)) (k) (n) (by omega) (by omega)
theorem c_refuses (l : Launch) (D : va_G) (g : zG) (a : Nat → Nat) (C : zMS) (f : Nat → Int32) (nn j : Nat) (hst : l.stackTraces = false) (hV : KV C) (hf0 : f 0 = nI (cM C)) (hf1 : f 1 = nI (cK C)) (hj : j < 9973) : zWrp l yL_refuses wsL_refuses { frames := 9, cells := 278, slots := 2817, locals := 183 } D (zT g) ([(nn, .inl (g.1, 3, .inl f))] ++ wC g a C (4 * cM C)) [.ref (a 0), .ref nn, .int (nI j)] (fun r w' => r = nI 1 ∧ w' = [(nn, .inl (g.1, 3, .inl f))] ++ wC g a C (4 * cM C)) 278 2817 := by
  refine zLwI_of (cc := cL_refuses) (maxL := 12) (ret := some .boolean) (own := RL) [(0, .ref (a 0)), (1, .ref nn), (2, .int (nI j))] (by decide) rfl rfl rfl (Nat.le_of_ble_eq_true rfl) ?_
  intro X A hAe hl B hr hLF
  have Hb : rfB X l D g A a C f nn := ⟨hAe, hl, B, hr, hLF, hst⟩
  rcases Nat.mod_two_eq_zero_or_one j with hx | hx
  · exact rf_lo Hb hV hf0 hf1 j hj hx 0 0 (by omega) (by omega)
  · exact rf_hi Hb hV hf0 hf1 j hj hx 0 0 (by omega) (by omega)
