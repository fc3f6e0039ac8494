/-! the law's holdsAll -/
set_option maxHeartbeats 4000000 in
set_option maxRecDepth 100000 in
theorem ha_Jo {X : zX} {l : Launch} {D : va_G} {g : zG} {A : Nat → Prop} {a : Nat → Nat} {C : zMS} {f : Nat → Int32} {nn : Nat} (Hb : haB X l D g A a C f nn) (hV : KV C) (hf0 : f 0 = nI (cM C)) (j d : Nat) (hj : j < 2 ^ 31) (hd : d ≤ cT C) (i : Nat) (hi : i < cP C) (q : Nat) (hq : q = cM C) (k n KB NB : Nat) (hKB : KB ≤ 7184) (hNB : NB ≤ 43104) (hk : k + 0 ≤ KB) (hn : n + 0 ≤ NB) (kk : ∀ (k2 n2 : Nat), k2 ≤ KB → n2 ≤ NB → zJ X 13 (zI1 D A (zs X)) (haQ X D g A a C f nn) ([(nn, .inl (g.1, 3, .inl f))] ++ wC g a C (4 * cM C)) k2 n2 [(0, .ref (a 0)), (1, .ref (nn)), (2, .int (nI (j))), (3, .int (nI (d))), (4, .int (nI (0))), (5, .int (nI (zcnt (fun p => cSt C p = 1) (i + 1)))), (6, .int (bI (AT C (i + 1)))), (7, .int (nI (1))), (8, .int (nI (i + 1)))] 24 []) : zJ X 13 (zI1 D A (zs X)) (haQ X D g A a C f nn) ([(nn, .inl (g.1, 3, .inl f))] ++ wC g a C (4 * cM C)) k n [(0, .ref (a 0)), (1, .ref (nn)), (2, .int (nI (j))), (3, .int (nI (d))), (4, .int (nI (0))), (5, .int (nI (zcnt (fun p => cSt C p = 1) (i + 1)))), (6, .int (bI (AT C (i + 1)))), (7, .int (nI (1))), (8, .int (nI (i))), (11, .int (nI (q)))] 215 [] := by
  obtain ⟨hAe, hl, B, hr, hLF, hst⟩ := id Hb
  have hI := KV_I hV
  have hJ := KV_J hV
  have bP := CI_b19 hI
  have bM := CI_b20 hI
  have bK := CI_b22 hI
  have bT := CI_b0 hI
  refine z_iload B 9 dL_holdsAll_215 rfl ?_
  refine z_aload_n B 1 dL_holdsAll_217 rfl rfl ?_
  refine z_iconst (v := nI 0) B dL_holdsAll_218 (by decide) ?_
  refine z_iald (g := f) (i := 0) B 0 0 rfl rfl (by omega) (by decide) dL_holdsAll_219 ?_
  refine z_top (y := nI (cM C)) hf0 ?_
  refine z_icmpN_ge B 276 dL_holdsAll_220 (by decide) (by omega) (by omega) (fun _ => ?_) (fun q => absurd q (by omega))
  refine z_iinc B 8 (lv1 := [(8, .int (nI (i + 1))), (0, .ref (a 0)), (1, .ref (nn)), (2, .int (nI (j))), (3, .int (nI (d))), (4, .int (nI (0))), (5, .int (nI (zcnt (fun p => cSt C p = 1) (i + 1)))), (6, .int (bI (AT C (i + 1)))), (7, .int (nI (1))), (11, .int (nI (q)))]) dL_holdsAll_276 rfl (nI_1 _) (by decide) rfl ?_
  refine z_goto B 24 dL_holdsAll_279 (by decide) ?_
  refine z_loc [1, 2, 3, 4, 5, 6, 7, 8, 0] (lv' := [(0, .ref (a 0)), (1, .ref (nn)), (2, .int (nI (j))), (3, .int (nI (d))), (4, .int (nI (0))), (5, .int (nI (zcnt (fun p => cSt C p = 1) (i + 1)))), (6, .int (bI (AT C (i + 1)))), (7, .int (nI (1))), (8, .int (nI (i + 1)))]) rfl ?_
  exact kk (k) (n) (by omega) (by omega)
set_option maxHeartbeats 4000000 in
set_option maxRecDepth 100000 in
theorem ha_Ji {X : zX} {l : Launch} {D : va_G} {g : zG} {A : Nat → Prop} {a : Nat → Nat} {C : zMS} {f : Nat → Int32} {nn : Nat} (Hb : haB X l D g A a C f nn) (hV : KV C) (hf0 : f 0 = nI (cM C)) (j d : Nat) (hj : j < 2 ^ 31) (hd : d ≤ cT C) (i : Nat) (hi : i < cP C) (q : Nat) (hq : q < cM C) (k n KB NB : Nat) (hKB : KB ≤ 7184) (hNB : NB ≤ 43104) (hk : k + 4 ≤ KB) (hn : n + 24 ≤ NB) (kk : ∀ (k2 n2 : Nat), k2 ≤ KB → n2 ≤ NB → zJ X 13 (zI1 D A (zs X)) (haQ X D g A a C f nn) ([(nn, .inl (g.1, 3, .inl f))] ++ wC g a C (4 * cM C)) k2 n2 [(0, .ref (a 0)), (1, .ref (nn)), (2, .int (nI (j))), (3, .int (nI (d))), (4, .int (nI (0))), (5, .int (nI (zcnt (fun p => cSt C p = 1) (i + 1)))), (6, .int (bI (AT C (i + 1)))), (7, .int (nI (1))), (8, .int (nI (i))), (11, .int (nI (q + 1)))] 215 []) : zJ X 13 (zI1 D A (zs X)) (haQ X D g A a C f nn) ([(nn, .inl (g.1, 3, .inl f))] ++ wC g a C (4 * cM C)) k n [(0, .ref (a 0)), (1, .ref (nn)), (2, .int (nI (j))), (3, .int (nI (d))), (4, .int (nI (0))), (5, .int (nI (zcnt (fun p => cSt C p = 1) (i + 1)))), (6, .int (bI (AT C (i + 1)))), (7, .int (nI (1))), (8, .int (nI (i))), (11, .int (nI (q)))] 215 [] := by
  obtain ⟨hAe, hl, B, hr, hLF, hst⟩ := id Hb
  have hI := KV_I hV
  have hJ := KV_J hV
  have bP := CI_b19 hI
  have bM := CI_b20 hI
  have bK := CI_b22 hI
  have bT := CI_b0 hI
  have ei : nN (nI i) = i := nN_nI (by omega)
  refine z_iload B 9 dL_holdsAll_215 rfl ?_
  refine z_aload_n B 1 dL_holdsAll_217 rfl rfl ?_
  refine z_iconst (v := nI 0) B dL_holdsAll_218 (by decide) ?_
  refine z_iald (g := f) (i := 0) B 0 0 rfl rfl (by omega) (by decide) dL_holdsAll_219 ?_
  refine z_top (y := nI (cM C)) hf0 ?_
  refine z_icmpN_ge B 276 dL_holdsAll_220 (by decide) (by omega) (by omega) (fun q => absurd q (by omega)) (fun _ => ?_)
  refine z_iload B 7 dL_holdsAll_223 rfl ?_
  refine z_if_eq B 276 dL_holdsAll_225 (by decide) (fun h => absurd h (by decide)) (fun _ => ?_)
  refine z_aload_n B 0 dL_holdsAll_228 rfl rfl ?_
  refine z_iload B 9 dL_holdsAll_229 rfl ?_
  refine z_iload B 8 dL_holdsAll_231 rfl ?_
  refine z_callW (As := [.ref (a 0), .int (nI (q)), .int (nI (i))]) (st := [])  B hLF hl (fo_stands l D g a C hst hI (nI (q)) (nI (i))) gL_holdsAll_L_stands rfl ⟨rfl, rfl⟩ nm_L_stands ⟨by decide, by decide⟩ rfl (Nat.le_of_ble_eq_true rfl) dL_holdsAll_233 (by omega) (by omega) (show k + 2 ≤ 7184 by omega) (show n + 12 ≤ 43104 by omega) (fun r w1 hpq => ?_)
  obtain ⟨rfl, rfl⟩ := hpq
  refine z_istore (lv1 := [(12, .int (s_stands C (nI (q)) (nI (i)))), (0, .ref (a 0)), (1, .ref (nn)), (2, .int (nI (j))), (3, .int (nI (d))), (4, .int (nI (0))), (5, .int (nI (zcnt (fun p => cSt C p = 1) (i + 1)))), (6, .int (bI (AT C (i + 1)))), (7, .int (nI (1))), (8, .int (nI (i))), (11, .int (nI (q)))]) B dL_holdsAll_236 (by decide) rfl ?_
  refine z_aload_n B 1 dL_holdsAll_238 rfl rfl ?_
  refine z_iload B 9 dL_holdsAll_239 rfl ?_
  refine z_callW (As := [.ref (a 0), .int (nI (i))]) (st := [])  B hLF hl (fo_state l D g a C hst hI (nI (i))) gL_holdsAll_L_state rfl ⟨rfl, rfl⟩ nm_L_state ⟨by decide, by decide⟩ rfl (Nat.le_of_ble_eq_true rfl) dL_holdsAll_241 (by omega) (by omega) (show k + 3 ≤ 7184 by omega) (show n + 18 ≤ 43104 by omega) (fun r w1 hpq => ?_)
  obtain ⟨rfl, rfl⟩ := rPost_at (show s_state C (nI (i)) = nI (cSt C i) from (s_state_ok (rn_in hi)).trans (by rw [ei])) hpq
  refine z_iconst (v := nI 2) B dL_holdsAll_244 (by decide) ?_
  have hs3 := St_lt (C := C) (p := i)
  refine z_icmpN_ne B 263 dL_holdsAll_245 (by decide) (by omega) (by omega) (fun c245 => ?_) (fun c245 => ?_)
  · refine z_iconst (v := nI 1) B dL_holdsAll_263 (by decide) ?_
    refine z_goto B 268 dL_holdsAll_264 (by decide) ?_
    refine z_istore (lv1 := [(7, .int (nI (1))), (12, .int (s_stands C (nI (q)) (nI (i)))), (0, .ref (a 0)), (1, .ref (nn)), (2, .int (nI (j))), (3, .int (nI (d))), (4, .int (nI (0))), (5, .int (nI (zcnt (fun p => cSt C p = 1) (i + 1)))), (6, .int (bI (AT C (i + 1)))), (8, .int (nI (i))), (11, .int (nI (q)))]) B dL_holdsAll_268 (by decide) rfl ?_
    refine z_iinc B 10 (lv1 := [(11, .int (nI (q + 1))), (7, .int (nI (1))), (12, .int (s_stands C (nI (q)) (nI (i)))), (0, .ref (a 0)), (1, .ref (nn)), (2, .int (nI (j))), (3, .int (nI (d))), (4, .int (nI (0))), (5, .int (nI (zcnt (fun p => cSt C p = 1) (i + 1)))), (6, .int (bI (AT C (i + 1)))), (8, .int (nI (i)))]) dL_holdsAll_270 rfl (nI_1 _) (by decide) rfl ?_
    refine z_goto B 215 dL_holdsAll_273 (by decide) ?_
    refine z_loc [3, 4, 5, 6, 7, 8, 9, 1, 10, 0] (lv' := [(0, .ref (a 0)), (1, .ref (nn)), (2, .int (nI (j))), (3, .int (nI (d))), (4, .int (nI (0))), (5, .int (nI (zcnt (fun p => cSt C p = 1) (i + 1)))), (6, .int (bI (AT C (i + 1)))), (7, .int (nI (1))), (8, .int (nI (i))), (11, .int (nI (q + 1)))]) rfl ?_
    exact kk (k + 3) (n + 18) (by omega) (by omega)
  · refine z_iload B 0 dL_holdsAll_248 rfl ?_
    refine z_iconst (v := nI 1) B dL_holdsAll_250 (by decide) ?_
    refine z_icmp_lt B 263 dL_holdsAll_251 (by decide) (fun c251 => ?_) (fun c251 => ?_)
    · refine z_iconst (v := nI 1) B dL_holdsAll_263 (by decide) ?_
      refine z_goto B 268 dL_holdsAll_264 (by decide) ?_
      refine z_istore (lv1 := [(7, .int (nI (1))), (12, .int (s_stands C (nI (q)) (nI (i)))), (0, .ref (a 0)), (1, .ref (nn)), (2, .int (nI (j))), (3, .int (nI (d))), (4, .int (nI (0))), (5, .int (nI (zcnt (fun p => cSt C p = 1) (i + 1)))), (6, .int (bI (AT C (i + 1)))), (8, .int (nI (i))), (11, .int (nI (q)))]) B dL_holdsAll_268 (by decide) rfl ?_
      refine z_iinc B 10 (lv1 := [(11, .int (nI (q + 1))), (7, .int (nI (1))), (12, .int (s_stands C (nI (q)) (nI (i)))), (0, .ref (a 0)), (1, .ref (nn)), (2, .int (nI (j))), (3, .int (nI (d))), (4, .int (nI (0))), (5, .int (nI (zcnt (fun p => cSt C p = 1) (i + 1)))), (6, .int (bI (AT C (i + 1)))), (8, .int (nI (i)))]) dL_holdsAll_270 rfl (nI_1 _) (by decide) rfl ?_
      refine z_goto B 215 dL_holdsAll_273 (by decide) ?_
      refine z_loc [3, 4, 5, 6, 7, 8, 9, 1, 10, 0] (lv' := [(0, .ref (a 0)), (1, .ref (nn)), (2, .int (nI (j))), (3, .int (nI (d))), (4, .int (nI (0))), (5, .int (nI (zcnt (fun p => cSt C p = 1) (i + 1)))), (6, .int (bI (AT C (i + 1)))), (7, .int (nI (1))), (8, .int (nI (i))), (11, .int (nI (q + 1)))]) rfl ?_
      exact kk (k + 3) (n + 18) (by omega) (by omega)
    · refine z_aload_n B 1 dL_holdsAll_254 rfl rfl ?_
      refine z_iload B 10 dL_holdsAll_255 rfl ?_
      refine z_callW (As := [.ref (a 0), .int (nI (q))]) (st := [])  B hLF hl (fo_inVault l D g a C hst hI (nI (q))) gL_holdsAll_L_inVault rfl ⟨rfl, rfl⟩ nm_L_inVault ⟨by decide, by decide⟩ rfl (Nat.le_of_ble_eq_true rfl) dL_holdsAll_257 (by omega) (by omega) (show k + 4 ≤ 7184 by omega) (show n + 24 ≤ 43104 by omega) (fun r w1 hpq => ?_)
      obtain ⟨rfl, rfl⟩ := hpq
      refine z_if_ne B 267 dL_holdsAll_260 (by decide) (fun q => absurd (ha_st hV hi (by omega) (by omega) c251) q) (fun _ => ?_)
      refine z_iconst (v := nI 1) B dL_holdsAll_263 (by decide) ?_
      refine z_goto B 268 dL_holdsAll_264 (by decide) ?_
      refine z_istore (lv1 := [(7, .int (nI (1))), (12, .int (s_stands C (nI (q)) (nI (i)))), (0, .ref (a 0)), (1, .ref (nn)), (2, .int (nI (j))), (3, .int (nI (d))), (4, .int (nI (0))), (5, .int (nI (zcnt (fun p => cSt C p = 1) (i + 1)))), (6, .int (bI (AT C (i + 1)))), (8, .int (nI (i))), (11, .int (nI (q)))]) B dL_holdsAll_268 (by decide) rfl ?_
      refine z_iinc B 10 (lv1 := [(11, .int (nI (q + 1))), (7, .int (nI (1))), (12, .int (s_stands C (nI (q)) (nI (i)))), (0, .ref (a 0)), (1, .ref (nn)), (2, .int (nI (j))), (3, .int (nI (d))), (4, .int (nI (0))), (5, .int (nI (zcnt (fun p => cSt C p = 1) (i + 1)))), (6, .int (bI (AT C (i + 1)))), (8, .int (nI (i)))]) dL_holdsAll_270 rfl (nI_1 _) (by decide) rfl ?_
      refine z_goto B 215 dL_holdsAll_273 (by decide) ?_
      refine z_loc [3, 4, 5, 6, 7, 8, 9, 1, 10, 0] (lv' := [(0, .ref (a 0)), (1, .ref (nn)), (2, .int (nI (j))), (3, .int (nI (d))), (4, .int (nI (0))), (5, .int (nI (zcnt (fun p => cSt C p = 1) (i + 1)))), (6, .int (bI (AT C (i + 1)))), (7, .int (nI (1))), (8, .int (nI (i))), (11, .int (nI (q + 1)))]) rfl ?_
      exact kk (k + 4) (n + 24) (by omega) (by omega)
set_option maxHeartbeats 4000000 in
set_option maxRecDepth 100000 in
theorem ha_J {X : zX} {l : Launch} {D : va_G} {g : zG} {A : Nat → Prop} {a : Nat → Nat} {C : zMS} {f : Nat → Int32} {nn : Nat} (Hb : haB X l D g A a C f nn) (hV : KV C) (hf0 : f 0 = nI (cM C)) (j d : Nat) (hj : j < 2 ^ 31) (hd : d ≤ cT C) (i : Nat) (hi : i < cP C) (KB NB : Nat) (hKB : KB ≤ 7184) (hNB : NB ≤ 43104) (kk : ∀ (k2 n2 : Nat), k2 ≤ KB → n2 ≤ NB → zJ X 13 (zI1 D A (zs X)) (haQ X D g A a C f nn) ([(nn, .inl (g.1, 3, .inl f))] ++ wC g a C (4 * cM C)) k2 n2 [(0, .ref (a 0)), (1, .ref (nn)), (2, .int (nI (j))), (3, .int (nI (d))), (4, .int (nI (0))), (5, .int (nI (zcnt (fun p => cSt C p = 1) (i + 1)))), (6, .int (bI (AT C (i + 1)))), (7, .int (nI (1))), (8, .int (nI (i + 1)))] 24 []) : ∀ (u q k n : Nat), q + u = cM C → k + (4 * u + 0) ≤ KB → n + (24 * u + 0) ≤ NB → zJ X 13 (zI1 D A (zs X)) (haQ X D g A a C f nn) ([(nn, .inl (g.1, 3, .inl f))] ++ wC g a C (4 * cM C)) k n [(0, .ref (a 0)), (1, .ref (nn)), (2, .int (nI (j))), (3, .int (nI (d))), (4, .int (nI (0))), (5, .int (nI (zcnt (fun p => cSt C p = 1) (i + 1)))), (6, .int (bI (AT C (i + 1)))), (7, .int (nI (1))), (8, .int (nI (i))), (11, .int (nI (q)))] 215 [] := by
  intro u
  induction u with
  | zero =>
    intro q k n hlp hk hn
    exact ha_Jo Hb hV hf0 j d hj hd i hi q (by omega) k n KB NB hKB hNB (by omega) (by omega) kk
  | succ u ih =>
    intro q k n hlp hk hn
    exact ha_Ji Hb hV hf0 j d hj hd i hi q (by omega) k n (k + 4) (n + 24) (by omega) (by omega) (Nat.le_refl _) (Nat.le_refl _) (fun k2 n2 h1 h2 => ih (q + 1) k2 n2 (by omega) (by omega) (by omega))

set_option maxHeartbeats 4000000 in
set_option maxRecDepth 100000 in
theorem ha_205 {X : zX} {l : Launch} {D : va_G} {g : zG} {A : Nat → Prop} {a : Nat → Nat} {C : zMS} {f : Nat → Int32} {nn : Nat} (Hb : haB X l D g A a C f nn) (hV : KV C) (hf0 : f 0 = nI (cM C)) (j d : Nat) (hj : j < 2 ^ 31) (hd : d ≤ cT C) (i : Nat) (hi : i < cP C) (k n KB NB : Nat) (hKB : KB ≤ 7184) (hNB : NB ≤ 43104) (hk : k + 64 ≤ KB) (hn : n + 384 ≤ NB) (kk : ∀ (k2 n2 : Nat), k2 ≤ KB → n2 ≤ NB → zJ X 13 (zI1 D A (zs X)) (haQ X D g A a C f nn) ([(nn, .inl (g.1, 3, .inl f))] ++ wC g a C (4 * cM C)) k2 n2 [(0, .ref (a 0)), (1, .ref (nn)), (2, .int (nI (j))), (3, .int (nI (d))), (4, .int (nI (0))), (5, .int (nI (zcnt (fun p => cSt C p = 1) (i + 1)))), (6, .int (bI (AT C (i + 1)))), (7, .int (nI (1))), (8, .int (nI (i + 1)))] 24 []) : zJ X 13 (zI1 D A (zs X)) (haQ X D g A a C f nn) ([(nn, .inl (g.1, 3, .inl f))] ++ wC g a C (4 * cM C)) k n [(0, .ref (a 0)), (1, .ref (nn)), (2, .int (nI (j))), (3, .int (nI (d))), (4, .int (nI (0))), (5, .int (nI (zcnt (fun p => cSt C p = 1) (i + 1)))), (6, .int (bI (AT C (i + 1)))), (7, .int (nI (1))), (8, .int (nI (i)))] 205 [] := by
  obtain ⟨hAe, hl, B, hr, hLF, hst⟩ := id Hb
  have hI := KV_I hV
  have hJ := KV_J hV
  have bP := CI_b19 hI
  have bM := CI_b20 hI
  have bK := CI_b22 hI
  have bT := CI_b0 hI
  refine z_iconst (v := nI 1) B dL_holdsAll_205 (by decide) ?_
  refine z_goto B 210 dL_holdsAll_206 (by decide) ?_
  refine z_istore (lv1 := [(7, .int (nI (1))), (0, .ref (a 0)), (1, .ref (nn)), (2, .int (nI (j))), (3, .int (nI (d))), (4, .int (nI (0))), (5, .int (nI (zcnt (fun p => cSt C p = 1) (i + 1)))), (6, .int (bI (AT C (i + 1)))), (8, .int (nI (i)))]) B dL_holdsAll_210 (by decide) rfl ?_
  refine z_iconst (v := nI 0) B dL_holdsAll_212 (by decide) ?_
  refine z_istore (lv1 := [(11, .int (nI (0))), (7, .int (nI (1))), (0, .ref (a 0)), (1, .ref (nn)), (2, .int (nI (j))), (3, .int (nI (d))), (4, .int (nI (0))), (5, .int (nI (zcnt (fun p => cSt C p = 1) (i + 1)))), (6, .int (bI (AT C (i + 1)))), (8, .int (nI (i)))]) B dL_holdsAll_213 (by decide) rfl ?_
  refine z_loc [2, 3, 4, 5, 6, 7, 8, 1, 9, 0] (lv' := [(0, .ref (a 0)), (1, .ref (nn)), (2, .int (nI (j))), (3, .int (nI (d))), (4, .int (nI (0))), (5, .int (nI (zcnt (fun p => cSt C p = 1) (i + 1)))), (6, .int (bI (AT C (i + 1)))), (7, .int (nI (1))), (8, .int (nI (i))), (11, .int (nI (0)))]) rfl ?_
  exact ha_J Hb hV hf0 j d hj hd i hi KB NB hKB hNB kk (cM C) 0 (k) (n) (by omega) (by omega) (by omega)
set_option maxHeartbeats 4000000 in
set_option maxRecDepth 100000 in
theorem ha_187 {X : zX} {l : Launch} {D : va_G} {g : zG} {A : Nat → Prop} {a : Nat → Nat} {C : zMS} {f : Nat → Int32} {nn : Nat} (Hb : haB X l D g A a C f nn) (hV : KV C) (hf0 : f 0 = nI (cM C)) (j d : Nat) (hj : j < 2 ^ 31) (hd : d ≤ cT C) (i : Nat) (hi : i < cP C) (k n KB NB : Nat) (hKB : KB ≤ 7184) (hNB : NB ≤ 43104) (hk : k + 66 ≤ KB) (hn : n + 396 ≤ NB) (kk : ∀ (k2 n2 : Nat), k2 ≤ KB → n2 ≤ NB → zJ X 13 (zI1 D A (zs X)) (haQ X D g A a C f nn) ([(nn, .inl (g.1, 3, .inl f))] ++ wC g a C (4 * cM C)) k2 n2 [(0, .ref (a 0)), (1, .ref (nn)), (2, .int (nI (j))), (3, .int (nI (d))), (4, .int (nI (0))), (5, .int (nI (zcnt (fun p => cSt C p = 1) (i + 1)))), (6, .int (bI (AT C (i + 1)))), (7, .int (nI (1))), (8, .int (nI (i + 1)))] 24 []) : zJ X 13 (zI1 D A (zs X)) (haQ X D g A a C f nn) ([(nn, .inl (g.1, 3, .inl f))] ++ wC g a C (4 * cM C)) k n [(0, .ref (a 0)), (1, .ref (nn)), (2, .int (nI (j))), (3, .int (nI (d))), (4, .int (nI (0))), (5, .int (nI (zcnt (fun p => cSt C p = 1) (i + 1)))), (6, .int (bI (AT C (i + 1)))), (7, .int (nI (1))), (8, .int (nI (i)))] 187 [] := by
  obtain ⟨hAe, hl, B, hr, hLF, hst⟩ := id Hb
  have hI := KV_I hV
  have hJ := KV_J hV
  have bP := CI_b19 hI
  have bM := CI_b20 hI
  have bK := CI_b22 hI
  have bT := CI_b0 hI
  have ei : nN (nI i) = i := nN_nI (by omega)
  refine z_aload_n B 0 dL_holdsAll_187 rfl rfl ?_
  refine z_iload B 8 dL_holdsAll_188 rfl ?_
  refine z_callW (As := [.ref (a 0), .int (nI (i))]) (st := [])  B hLF hl (fo_isTrue l D g a C hst hI (nI (i))) gL_holdsAll_L_isTrue rfl ⟨rfl, rfl⟩ nm_L_isTrue ⟨by decide, by decide⟩ rfl (Nat.le_of_ble_eq_true rfl) dL_holdsAll_190 (by omega) (by omega) (show k + 1 ≤ 7184 by omega) (show n + 6 ≤ 43104 by omega) (fun r w1 hpq => ?_)
  obtain ⟨rfl, rfl⟩ := rPost_at (show s_isTrue C (nI (i)) = bI (cTB C i) from (s_isTrue_ok (rn_in hi)).trans (by rw [ei])) hpq
  refine z_ifB_eq B 205 dL_holdsAll_193 (by decide) (fun c193 => ?_) (fun c193 => ?_)
  · refine z_loc [0, 1, 2, 3, 4, 5, 6, 7, 8] (lv' := [(0, .ref (a 0)), (1, .ref (nn)), (2, .int (nI (j))), (3, .int (nI (d))), (4, .int (nI (0))), (5, .int (nI (zcnt (fun p => cSt C p = 1) (i + 1)))), (6, .int (bI (AT C (i + 1)))), (7, .int (nI (1))), (8, .int (nI (i)))]) rfl ?_
    exact ha_205 Hb hV hf0 j d hj hd i hi (k + 1) (n + 6) KB NB hKB hNB (by omega) (by omega) kk
  · refine z_aload_n B 0 dL_holdsAll_196 rfl rfl ?_
    refine z_iload B 8 dL_holdsAll_197 rfl ?_
    refine z_callW (As := [.ref (a 0), .int (nI (i))]) (st := [])  B hLF hl (fo_state l D g a C hst hI (nI (i))) gL_holdsAll_L_state rfl ⟨rfl, rfl⟩ nm_L_state ⟨by decide, by decide⟩ rfl (Nat.le_of_ble_eq_true rfl) dL_holdsAll_199 (by omega) (by omega) (show k + 2 ≤ 7184 by omega) (show n + 12 ≤ 43104 by omega) (fun r w1 hpq => ?_)
    obtain ⟨rfl, rfl⟩ := rPost_at (show s_state C (nI (i)) = nI (cSt C i) from (s_state_ok (rn_in hi)).trans (by rw [ei])) hpq
    have hs3 := St_lt (C := C) (p := i)
    have hs0 := (K_T hV hi c193).2.2
    refine z_ifN_ne B 209 dL_holdsAll_202 (by decide) (by omega) (fun q => absurd q (by omega)) (fun _ => ?_)
    refine z_loc [0, 1, 2, 3, 4, 5, 6, 7, 8] (lv' := [(0, .ref (a 0)), (1, .ref (nn)), (2, .int (nI (j))), (3, .int (nI (d))), (4, .int (nI (0))), (5, .int (nI (zcnt (fun p => cSt C p = 1) (i + 1)))), (6, .int (bI (AT C (i + 1)))), (7, .int (nI (1))), (8, .int (nI (i)))]) rfl ?_
    exact ha_205 Hb hV hf0 j d hj hd i hi (k + 2) (n + 12) KB NB hKB hNB (by omega) (by omega) kk
set_option maxHeartbeats 4000000 in
set_option maxRecDepth 100000 in
theorem ha_122 {X : zX} {l : Launch} {D : va_G} {g : zG} {A : Nat → Prop} {a : Nat → Nat} {C : zMS} {f : Nat → Int32} {nn : Nat} (Hb : haB X l D g A a C f nn) (hV : KV C) (hf0 : f 0 = nI (cM C)) (j d : Nat) (hj : j < 2 ^ 31) (hd : d ≤ cT C) (i : Nat) (hi : i < cP C) (k n KB NB : Nat) (hKB : KB ≤ 7184) (hNB : NB ≤ 43104) (hk : k + 70 ≤ KB) (hn : n + 420 ≤ NB) (kk : ∀ (k2 n2 : Nat), k2 ≤ KB → n2 ≤ NB → zJ X 13 (zI1 D A (zs X)) (haQ X D g A a C f nn) ([(nn, .inl (g.1, 3, .inl f))] ++ wC g a C (4 * cM C)) k2 n2 [(0, .ref (a 0)), (1, .ref (nn)), (2, .int (nI (j))), (3, .int (nI (d))), (4, .int (nI (0))), (5, .int (nI (zcnt (fun p => cSt C p = 1) (i + 1)))), (6, .int (bI (AT C (i + 1)))), (7, .int (nI (1))), (8, .int (nI (i + 1)))] 24 []) : zJ X 13 (zI1 D A (zs X)) (haQ X D g A a C f nn) ([(nn, .inl (g.1, 3, .inl f))] ++ wC g a C (4 * cM C)) k n [(0, .ref (a 0)), (1, .ref (nn)), (2, .int (nI (j))), (3, .int (nI (d))), (4, .int (nI (0))), (5, .int (nI (zcnt (fun p => cSt C p = 1) (i + 1)))), (6, .int (bI (AT C (i + 1)))), (7, .int (nI (1))), (8, .int (nI (i))), (9, .int (nI (0)))] 122 [] := by
  obtain ⟨hAe, hl, B, hr, hLF, hst⟩ := id Hb
  have hI := KV_I hV
  have hJ := KV_J hV
  have bP := CI_b19 hI
  have bM := CI_b20 hI
  have bK := CI_b22 hI
  have bT := CI_b0 hI
  have ei : nN (nI i) = i := nN_nI (by omega)
  obtain ⟨-, ⟨mk, hmk, emk⟩, -⟩ := hV.2.2.1 i hi
  have hrv := (hV.2.2.2.1 i hi).1
  refine z_aload_n B 0 dL_holdsAll_122 rfl rfl ?_
  refine z_iload B 8 dL_holdsAll_123 rfl ?_
  refine z_callW (As := [.ref (a 0), .int (nI (i))]) (st := [])  B hLF hl (fo_reversal l D g a C hst hI (nI (i))) gL_holdsAll_L_reversal rfl ⟨rfl, rfl⟩ nm_L_reversal ⟨by decide, by decide⟩ rfl (Nat.le_of_ble_eq_true rfl) dL_holdsAll_125 (by omega) (by omega) (show k + 1 ≤ 7184 by omega) (show n + 6 ≤ 43104 by omega) (fun r w1 hpq => ?_)
  obtain ⟨rfl, rfl⟩ := rPost_at (show s_reversal C (nI (i)) = (C 12 i) from (s_reversal_ok (rn_in hi)).trans (by rw [ei])) hpq
  refine z_istore (lv1 := [(10, .int ((C 12 i))), (0, .ref (a 0)), (1, .ref (nn)), (2, .int (nI (j))), (3, .int (nI (d))), (4, .int (nI (0))), (5, .int (nI (zcnt (fun p => cSt C p = 1) (i + 1)))), (6, .int (bI (AT C (i + 1)))), (7, .int (nI (1))), (8, .int (nI (i))), (9, .int (nI (0)))]) B dL_holdsAll_128 (by decide) rfl ?_
  refine z_iload B 10 dL_holdsAll_130 rfl ?_
  refine z_if_ne B 209 dL_holdsAll_132 (by decide) (fun h => absurd h (by decide)) (fun _ => ?_)
  refine z_aload_n B 1 dL_holdsAll_135 rfl rfl ?_
  refine z_iload B 9 dL_holdsAll_136 rfl ?_
  refine z_callW (As := [.ref (a 0), .int (nI (i))]) (st := [])  B hLF hl (fo_mark l D g a C hst hI (nI (i))) gL_holdsAll_L_mark rfl ⟨rfl, rfl⟩ nm_L_mark ⟨by decide, by decide⟩ rfl (Nat.le_of_ble_eq_true rfl) dL_holdsAll_138 (by omega) (by omega) (show k + 2 ≤ 7184 by omega) (show n + 12 ≤ 43104 by omega) (fun r w1 hpq => ?_)
  obtain ⟨rfl, rfl⟩ := rPost_at (show s_mark C (nI (i)) = nI (mk) from (s_mark_ok (rn_in hi)).trans (by rw [ei, emk])) hpq
  refine z_if_lt B 209 dL_holdsAll_141 (by decide) (fun h => absurd h (nI_pos (by omega))) (fun _ => ?_)
  refine z_aload_n B 1 dL_holdsAll_144 rfl rfl ?_
  refine z_iload B 9 dL_holdsAll_145 rfl ?_
  refine z_callW (As := [.ref (a 0), .int (nI (i))]) (st := [])  B hLF hl (fo_mark l D g a C hst hI (nI (i))) gL_holdsAll_L_mark rfl ⟨rfl, rfl⟩ nm_L_mark ⟨by decide, by decide⟩ rfl (Nat.le_of_ble_eq_true rfl) dL_holdsAll_147 (by omega) (by omega) (show k + 3 ≤ 7184 by omega) (show n + 18 ≤ 43104 by omega) (fun r w1 hpq => ?_)
  obtain ⟨rfl, rfl⟩ := rPost_at (show s_mark C (nI (i)) = nI (mk) from (s_mark_ok (rn_in hi)).trans (by rw [ei, emk])) hpq
  refine z_ldc (v := (1000003)) B 1 rfl dL_holdsAll_150 ?_
  refine z_top (y := nI 1000003) rfl ?_
  refine z_icmpN_ge B 209 dL_holdsAll_152 (by decide) (by omega) (by omega) (fun q => absurd q (by omega)) (fun _ => ?_)
  refine z_iload B 0 dL_holdsAll_155 rfl ?_
  refine z_iconst (v := (-1)) B dL_holdsAll_157 (by decide) ?_
  refine z_icmp_eq B 187 dL_holdsAll_158 (by decide) (fun c158 => ?_) (fun c158 => ?_)
  · refine z_loc [1, 2, 3, 4, 5, 6, 7, 8, 9] (lv' := [(0, .ref (a 0)), (1, .ref (nn)), (2, .int (nI (j))), (3, .int (nI (d))), (4, .int (nI (0))), (5, .int (nI (zcnt (fun p => cSt C p = 1) (i + 1)))), (6, .int (bI (AT C (i + 1)))), (7, .int (nI (1))), (8, .int (nI (i)))]) rfl ?_
    exact ha_187 Hb hV hf0 j d hj hd i hi (k + 3) (n + 18) KB NB hKB hNB (by omega) (by omega) kk
  · obtain ⟨r, hr1, hr2, e12, h12, -⟩ := hrv.resolve_left c158
    refine z_iload B 0 dL_holdsAll_161 rfl ?_
    refine z_iload B 9 dL_holdsAll_163 rfl ?_
    refine z_icmp_le B 209 dL_holdsAll_165 (by decide) (fun q => absurd q (by rw [e12]; exact nI_ge (by omega) (by omega))) (fun _ => ?_)
    refine z_iload B 0 dL_holdsAll_168 rfl ?_
    refine z_aload_n B 1 dL_holdsAll_170 rfl rfl ?_
    refine z_callP (As := []) (st := [.int ((C 12 i))]) (C := RX6) (T := TX6) (N := 6) (ci := 6) (l := l) B hl (cc_X6_pages l D g a C (4 * cM C) hI) gL_holdsAll_X6_pages rfl ⟨rfl, rfl⟩ nm_X6_pages ⟨by decide, by decide⟩ (fun _ h => sub_r h) 0 rfl rfl rfl (Nat.le_of_ble_eq_true rfl) dL_holdsAll_171 (show k + 3 ≤ 7184 by omega) (show n + 18 ≤ 43104 by omega) (fun r hr1 => ?_)
    obtain rfl := hr1
    refine z_icmp_ge B 209 dL_holdsAll_174 (by decide) (fun q => absurd q (by rw [e12]; exact nI_ge (by omega) (by omega))) (fun _ => ?_)
    refine z_aload_n B 1 dL_holdsAll_177 rfl rfl ?_
    refine z_iload B 0 dL_holdsAll_178 rfl ?_
    refine z_callW (As := [.ref (a 0), .int ((C 12 i))]) (st := [])  B hLF hl (fo_reversal l D g a C hst hI (C 12 i)) gL_holdsAll_L_reversal rfl ⟨rfl, rfl⟩ nm_L_reversal ⟨by decide, by decide⟩ rfl (Nat.le_of_ble_eq_true rfl) dL_holdsAll_180 (by omega) (by omega) (show k + 4 ≤ 7184 by omega) (show n + 24 ≤ 43104 by omega) (fun r w1 hpq => ?_)
    obtain ⟨rfl, rfl⟩ := rPost_at (show s_reversal C (C 12 i) = (-1) from (s_reversal_ok (by rw [e12]; exact rn_in hr2)).trans (by rw [e12, nN_nI (by omega)]; exact h12)) hpq
    refine z_iconst (v := (-1)) B dL_holdsAll_183 (by decide) ?_
    refine z_icmp_ne B 209 dL_holdsAll_184 (by decide) (fun q => absurd rfl q) (fun _ => ?_)
    refine z_loc [1, 2, 3, 4, 5, 6, 7, 8, 9] (lv' := [(0, .ref (a 0)), (1, .ref (nn)), (2, .int (nI (j))), (3, .int (nI (d))), (4, .int (nI (0))), (5, .int (nI (zcnt (fun p => cSt C p = 1) (i + 1)))), (6, .int (bI (AT C (i + 1)))), (7, .int (nI (1))), (8, .int (nI (i)))]) rfl ?_
    exact ha_187 Hb hV hf0 j d hj hd i hi (k + 4) (n + 24) KB NB hKB hNB (by omega) (by omega) kk
set_option maxHeartbeats 4000000 in
set_option maxRecDepth 100000 in
theorem ha_90 {X : zX} {l : Launch} {D : va_G} {g : zG} {A : Nat → Prop} {a : Nat → Nat} {C : zMS} {f : Nat → Int32} {nn : Nat} (Hb : haB X l D g A a C f nn) (hV : KV C) (hf0 : f 0 = nI (cM C)) (j d : Nat) (hj : j < 2 ^ 31) (hd : d ≤ cT C) (i : Nat) (hi : i < cP C) (k n KB NB : Nat) (hKB : KB ≤ 7184) (hNB : NB ≤ 43104) (hk : k + 72 ≤ KB) (hn : n + 432 ≤ NB) (kk : ∀ (k2 n2 : Nat), k2 ≤ KB → n2 ≤ NB → zJ X 13 (zI1 D A (zs X)) (haQ X D g A a C f nn) ([(nn, .inl (g.1, 3, .inl f))] ++ wC g a C (4 * cM C)) k2 n2 [(0, .ref (a 0)), (1, .ref (nn)), (2, .int (nI (j))), (3, .int (nI (d))), (4, .int (nI (0))), (5, .int (nI (zcnt (fun p => cSt C p = 1) (i + 1)))), (6, .int (bI (AT C (i + 1)))), (7, .int (nI (1))), (8, .int (nI (i + 1)))] 24 []) : zJ X 13 (zI1 D A (zs X)) (haQ X D g A a C f nn) ([(nn, .inl (g.1, 3, .inl f))] ++ wC g a C (4 * cM C)) k n [(0, .ref (a 0)), (1, .ref (nn)), (2, .int (nI (j))), (3, .int (nI (d))), (4, .int (nI (0))), (5, .int (nI (zcnt (fun p => cSt C p = 1) (i + 1)))), (6, .int (bI (AT C (i)))), (7, .int (nI (1))), (8, .int (nI (i))), (9, .int (nI (0)))] 90 [] := by
  obtain ⟨hAe, hl, B, hr, hLF, hst⟩ := id Hb
  have hI := KV_I hV
  have hJ := KV_J hV
  have bP := CI_b19 hI
  have bM := CI_b20 hI
  have bK := CI_b22 hI
  have bT := CI_b0 hI
  have ei : nN (nI i) = i := nN_nI (by omega)
  have hs3 := St_lt (C := C) (p := i)
  refine z_iload B 6 dL_holdsAll_90 rfl ?_
  refine z_ifB_eq B 119 dL_holdsAll_92 (by decide) (fun c92 => ?_) (fun c92 => ?_)
  · refine z_iconst (v := nI 0) B dL_holdsAll_119 (by decide) ?_
    refine z_istore (lv1 := [(6, .int (nI (0))), (0, .ref (a 0)), (1, .ref (nn)), (2, .int (nI (j))), (3, .int (nI (d))), (4, .int (nI (0))), (5, .int (nI (zcnt (fun p => cSt C p = 1) (i + 1)))), (7, .int (nI (1))), (8, .int (nI (i))), (9, .int (nI (0)))]) B dL_holdsAll_120 (by decide) rfl ?_
    refine z_loc [1, 2, 3, 4, 5, 6, 0, 7, 8, 9] (lv' := [(0, .ref (a 0)), (1, .ref (nn)), (2, .int (nI (j))), (3, .int (nI (d))), (4, .int (nI (0))), (5, .int (nI (zcnt (fun p => cSt C p = 1) (i + 1)))), (6, .int (nI (0))), (7, .int (nI (1))), (8, .int (nI (i))), (9, .int (nI (0)))]) rfl ?_
    refine z_lvc (lv' := [(0, .ref (a 0)), (1, .ref (nn)), (2, .int (nI (j))), (3, .int (nI (d))), (4, .int (nI (0))), (5, .int (nI (zcnt (fun p => cSt C p = 1) (i + 1)))), (6, .int (bI (AT C (i + 1)))), (7, .int (nI (1))), (8, .int (nI (i))), (9, .int (nI (0)))]) (by first | (rw [← bI_z (P := AT C (i + 1)) (fun z => c92 (AT_l z))] <;> rfl) | (rw [← bI_1 (P := AT C (i + 1)) (AT_s c92 (Or.inl c102))] <;> rfl) | (rw [← bI_1 (P := AT C (i + 1)) (AT_s c92 (Or.inr (bI_e1.mp c112)))] <;> rfl) | (rw [← bI_z (P := AT C (i + 1)) (fun z => (z i (Nat.lt_succ_self i)).elim c102 (fun r => c112 (bI_e1.mpr r)))] <;> rfl)) ?_
    exact ha_122 Hb hV hf0 j d hj hd i hi (k) (n) KB NB hKB hNB (by omega) (by omega) kk
  · refine z_aload_n B 0 dL_holdsAll_95 rfl rfl ?_
    refine z_iload B 8 dL_holdsAll_96 rfl ?_
    refine z_callW (As := [.ref (a 0), .int (nI (i))]) (st := [])  B hLF hl (fo_state l D g a C hst hI (nI (i))) gL_holdsAll_L_state rfl ⟨rfl, rfl⟩ nm_L_state ⟨by decide, by decide⟩ rfl (Nat.le_of_ble_eq_true rfl) dL_holdsAll_98 (by omega) (by omega) (show k + 1 ≤ 7184 by omega) (show n + 6 ≤ 43104 by omega) (fun r w1 hpq => ?_)
    obtain ⟨rfl, rfl⟩ := rPost_at (show s_state C (nI (i)) = nI (cSt C i) from (s_state_ok (rn_in hi)).trans (by rw [ei])) hpq
    refine z_iconst (v := nI 2) B dL_holdsAll_101 (by decide) ?_
    refine z_icmpN_eq B 115 dL_holdsAll_102 (by decide) (by omega) (by omega) (fun c102 => ?_) (fun c102 => ?_)
    · refine z_iconst (v := nI 1) B dL_holdsAll_115 (by decide) ?_
      refine z_goto B 120 dL_holdsAll_116 (by decide) ?_
      refine z_istore (lv1 := [(6, .int (nI (1))), (0, .ref (a 0)), (1, .ref (nn)), (2, .int (nI (j))), (3, .int (nI (d))), (4, .int (nI (0))), (5, .int (nI (zcnt (fun p => cSt C p = 1) (i + 1)))), (7, .int (nI (1))), (8, .int (nI (i))), (9, .int (nI (0)))]) B dL_holdsAll_120 (by decide) rfl ?_
      refine z_loc [1, 2, 3, 4, 5, 6, 0, 7, 8, 9] (lv' := [(0, .ref (a 0)), (1, .ref (nn)), (2, .int (nI (j))), (3, .int (nI (d))), (4, .int (nI (0))), (5, .int (nI (zcnt (fun p => cSt C p = 1) (i + 1)))), (6, .int (nI (1))), (7, .int (nI (1))), (8, .int (nI (i))), (9, .int (nI (0)))]) rfl ?_
      refine z_lvc (lv' := [(0, .ref (a 0)), (1, .ref (nn)), (2, .int (nI (j))), (3, .int (nI (d))), (4, .int (nI (0))), (5, .int (nI (zcnt (fun p => cSt C p = 1) (i + 1)))), (6, .int (bI (AT C (i + 1)))), (7, .int (nI (1))), (8, .int (nI (i))), (9, .int (nI (0)))]) (by first | (rw [← bI_z (P := AT C (i + 1)) (fun z => c92 (AT_l z))] <;> rfl) | (rw [← bI_1 (P := AT C (i + 1)) (AT_s c92 (Or.inl c102))] <;> rfl) | (rw [← bI_1 (P := AT C (i + 1)) (AT_s c92 (Or.inr (bI_e1.mp c112)))] <;> rfl) | (rw [← bI_z (P := AT C (i + 1)) (fun z => (z i (Nat.lt_succ_self i)).elim c102 (fun r => c112 (bI_e1.mpr r)))] <;> rfl)) ?_
      exact ha_122 Hb hV hf0 j d hj hd i hi (k + 1) (n + 6) KB NB hKB hNB (by omega) (by omega) kk
    · refine z_aload_n B 0 dL_holdsAll_105 rfl rfl ?_
      refine z_iload B 8 dL_holdsAll_106 rfl ?_
      refine z_callW (As := [.ref (a 0), .int (nI (i))]) (st := [])  B hLF hl (fo_isTrue l D g a C hst hI (nI (i))) gL_holdsAll_L_isTrue rfl ⟨rfl, rfl⟩ nm_L_isTrue ⟨by decide, by decide⟩ rfl (Nat.le_of_ble_eq_true rfl) dL_holdsAll_108 (by omega) (by omega) (show k + 2 ≤ 7184 by omega) (show n + 12 ≤ 43104 by omega) (fun r w1 hpq => ?_)
      obtain ⟨rfl, rfl⟩ := rPost_at (show s_isTrue C (nI (i)) = (bI (cTB C i)) from (s_isTrue_ok (rn_in hi)).trans (by rw [ei])) hpq
      refine z_iconst (v := nI 1) B dL_holdsAll_111 (by decide) ?_
      refine z_icmp_ne B 119 dL_holdsAll_112 (by decide) (fun c112 => ?_) (fun c112 => ?_)
      · refine z_iconst (v := nI 0) B dL_holdsAll_119 (by decide) ?_
        refine z_istore (lv1 := [(6, .int (nI (0))), (0, .ref (a 0)), (1, .ref (nn)), (2, .int (nI (j))), (3, .int (nI (d))), (4, .int (nI (0))), (5, .int (nI (zcnt (fun p => cSt C p = 1) (i + 1)))), (7, .int (nI (1))), (8, .int (nI (i))), (9, .int (nI (0)))]) B dL_holdsAll_120 (by decide) rfl ?_
        refine z_loc [1, 2, 3, 4, 5, 6, 0, 7, 8, 9] (lv' := [(0, .ref (a 0)), (1, .ref (nn)), (2, .int (nI (j))), (3, .int (nI (d))), (4, .int (nI (0))), (5, .int (nI (zcnt (fun p => cSt C p = 1) (i + 1)))), (6, .int (nI (0))), (7, .int (nI (1))), (8, .int (nI (i))), (9, .int (nI (0)))]) rfl ?_
        refine z_lvc (lv' := [(0, .ref (a 0)), (1, .ref (nn)), (2, .int (nI (j))), (3, .int (nI (d))), (4, .int (nI (0))), (5, .int (nI (zcnt (fun p => cSt C p = 1) (i + 1)))), (6, .int (bI (AT C (i + 1)))), (7, .int (nI (1))), (8, .int (nI (i))), (9, .int (nI (0)))]) (by first | (rw [← bI_z (P := AT C (i + 1)) (fun z => c92 (AT_l z))] <;> rfl) | (rw [← bI_1 (P := AT C (i + 1)) (AT_s c92 (Or.inl c102))] <;> rfl) | (rw [← bI_1 (P := AT C (i + 1)) (AT_s c92 (Or.inr (bI_e1.mp c112)))] <;> rfl) | (rw [← bI_z (P := AT C (i + 1)) (fun z => (z i (Nat.lt_succ_self i)).elim c102 (fun r => c112 (bI_e1.mpr r)))] <;> rfl)) ?_
        exact ha_122 Hb hV hf0 j d hj hd i hi (k + 2) (n + 12) KB NB hKB hNB (by omega) (by omega) kk
      · refine z_iconst (v := nI 1) B dL_holdsAll_115 (by decide) ?_
        refine z_goto B 120 dL_holdsAll_116 (by decide) ?_
        refine z_istore (lv1 := [(6, .int (nI (1))), (0, .ref (a 0)), (1, .ref (nn)), (2, .int (nI (j))), (3, .int (nI (d))), (4, .int (nI (0))), (5, .int (nI (zcnt (fun p => cSt C p = 1) (i + 1)))), (7, .int (nI (1))), (8, .int (nI (i))), (9, .int (nI (0)))]) B dL_holdsAll_120 (by decide) rfl ?_
        refine z_loc [1, 2, 3, 4, 5, 6, 0, 7, 8, 9] (lv' := [(0, .ref (a 0)), (1, .ref (nn)), (2, .int (nI (j))), (3, .int (nI (d))), (4, .int (nI (0))), (5, .int (nI (zcnt (fun p => cSt C p = 1) (i + 1)))), (6, .int (nI (1))), (7, .int (nI (1))), (8, .int (nI (i))), (9, .int (nI (0)))]) rfl ?_
        refine z_lvc (lv' := [(0, .ref (a 0)), (1, .ref (nn)), (2, .int (nI (j))), (3, .int (nI (d))), (4, .int (nI (0))), (5, .int (nI (zcnt (fun p => cSt C p = 1) (i + 1)))), (6, .int (bI (AT C (i + 1)))), (7, .int (nI (1))), (8, .int (nI (i))), (9, .int (nI (0)))]) (by first | (rw [← bI_z (P := AT C (i + 1)) (fun z => c92 (AT_l z))] <;> rfl) | (rw [← bI_1 (P := AT C (i + 1)) (AT_s c92 (Or.inl c102))] <;> rfl) | (rw [← bI_1 (P := AT C (i + 1)) (AT_s c92 (Or.inr (bI_e1.mp c112)))] <;> rfl) | (rw [← bI_z (P := AT C (i + 1)) (fun z => (z i (Nat.lt_succ_self i)).elim c102 (fun r => c112 (bI_e1.mpr r)))] <;> rfl)) ?_
        exact ha_122 Hb hV hf0 j d hj hd i hi (k + 2) (n + 12) KB NB hKB hNB (by omega) (by omega) kk
set_option maxHeartbeats 4000000 in
set_option maxRecDepth 100000 in
theorem ha_70 {X : zX} {l : Launch} {D : va_G} {g : zG} {A : Nat → Prop} {a : Nat → Nat} {C : zMS} {f : Nat → Int32} {nn : Nat} (Hb : haB X l D g A a C f nn) (hV : KV C) (hf0 : f 0 = nI (cM C)) (j d : Nat) (hj : j < 2 ^ 31) (hd : d ≤ cT C) (i : Nat) (hi : i < cP C) (k n KB NB : Nat) (hKB : KB ≤ 7184) (hNB : NB ≤ 43104) (hk : k + 73 ≤ KB) (hn : n + 438 ≤ NB) (kk : ∀ (k2 n2 : Nat), k2 ≤ KB → n2 ≤ NB → zJ X 13 (zI1 D A (zs X)) (haQ X D g A a C f nn) ([(nn, .inl (g.1, 3, .inl f))] ++ wC g a C (4 * cM C)) k2 n2 [(0, .ref (a 0)), (1, .ref (nn)), (2, .int (nI (j))), (3, .int (nI (d))), (4, .int (nI (0))), (5, .int (nI (zcnt (fun p => cSt C p = 1) (i + 1)))), (6, .int (bI (AT C (i + 1)))), (7, .int (nI (1))), (8, .int (nI (i + 1)))] 24 []) : zJ X 13 (zI1 D A (zs X)) (haQ X D g A a C f nn) ([(nn, .inl (g.1, 3, .inl f))] ++ wC g a C (4 * cM C)) k n [(0, .ref (a 0)), (1, .ref (nn)), (2, .int (nI (j))), (3, .int (nI (d))), (4, .int (nI (0))), (5, .int (nI (zcnt (fun p => cSt C p = 1) (i)))), (6, .int (bI (AT C (i)))), (7, .int (nI (1))), (8, .int (nI (i))), (9, .int (nI (0)))] 70 [] := by
  obtain ⟨hAe, hl, B, hr, hLF, hst⟩ := id Hb
  have hI := KV_I hV
  have hJ := KV_J hV
  have bP := CI_b19 hI
  have bM := CI_b20 hI
  have bK := CI_b22 hI
  have bT := CI_b0 hI
  have ei : nN (nI i) = i := nN_nI (by omega)
  have hs3 := St_lt (C := C) (p := i)
  refine z_iload B 5 dL_holdsAll_70 rfl ?_
  refine z_aload_n B 0 dL_holdsAll_72 rfl rfl ?_
  refine z_iload B 8 dL_holdsAll_73 rfl ?_
  refine z_callW (As := [.ref (a 0), .int (nI (i))]) (st := [.int (nI (zcnt (fun p => cSt C p = 1) (i)))])  B hLF hl (fo_state l D g a C hst hI (nI (i))) gL_holdsAll_L_state rfl ⟨rfl, rfl⟩ nm_L_state ⟨by decide, by decide⟩ rfl (Nat.le_of_ble_eq_true rfl) dL_holdsAll_75 (by omega) (by omega) (show k + 1 ≤ 7184 by omega) (show n + 6 ≤ 43104 by omega) (fun r w1 hpq => ?_)
  obtain ⟨rfl, rfl⟩ := rPost_at (show s_state C (nI (i)) = nI (cSt C i) from (s_state_ok (rn_in hi)).trans (by rw [ei])) hpq
  refine z_iconst (v := nI 1) B dL_holdsAll_78 (by decide) ?_
  refine z_icmpN_ne B 86 dL_holdsAll_79 (by decide) (by omega) (by omega) (fun c79 => ?_) (fun c79 => ?_)
  · refine z_iconst (v := nI 0) B dL_holdsAll_86 (by decide) ?_
    refine z_iaddN B dL_holdsAll_87 ?_
    refine z_istore (lv1 := [(5, .int (nI (zcnt (fun p => cSt C p = 1) (i) + 0))), (0, .ref (a 0)), (1, .ref (nn)), (2, .int (nI (j))), (3, .int (nI (d))), (4, .int (nI (0))), (6, .int (bI (AT C (i)))), (7, .int (nI (1))), (8, .int (nI (i))), (9, .int (nI (0)))]) B dL_holdsAll_88 (by decide) rfl ?_
    refine z_loc [1, 2, 3, 4, 5, 0, 6, 7, 8, 9] (lv' := [(0, .ref (a 0)), (1, .ref (nn)), (2, .int (nI (j))), (3, .int (nI (d))), (4, .int (nI (0))), (5, .int (nI (zcnt (fun p => cSt C p = 1) (i) + 0))), (6, .int (bI (AT C (i)))), (7, .int (nI (1))), (8, .int (nI (i))), (9, .int (nI (0)))]) rfl ?_
    refine z_lvc (lv' := [(0, .ref (a 0)), (1, .ref (nn)), (2, .int (nI (j))), (3, .int (nI (d))), (4, .int (nI (0))), (5, .int (nI (zcnt (fun p => cSt C p = 1) (i + 1)))), (6, .int (bI (AT C (i)))), (7, .int (nI (1))), (8, .int (nI (i))), (9, .int (nI (0)))]) (by first | (rw [zcnt_y (P := fun p => cSt C p = 1) c79] <;> rfl) | (rw [← zcnt_n (P := fun p => cSt C p = 1) c79] <;> rfl)) ?_
    exact ha_90 Hb hV hf0 j d hj hd i hi (k + 1) (n + 6) KB NB hKB hNB (by omega) (by omega) kk
  · refine z_iconst (v := nI 1) B dL_holdsAll_82 (by decide) ?_
    refine z_goto B 87 dL_holdsAll_83 (by decide) ?_
    refine z_iaddN B dL_holdsAll_87 ?_
    refine z_istore (lv1 := [(5, .int (nI (zcnt (fun p => cSt C p = 1) (i) + 1))), (0, .ref (a 0)), (1, .ref (nn)), (2, .int (nI (j))), (3, .int (nI (d))), (4, .int (nI (0))), (6, .int (bI (AT C (i)))), (7, .int (nI (1))), (8, .int (nI (i))), (9, .int (nI (0)))]) B dL_holdsAll_88 (by decide) rfl ?_
    refine z_loc [1, 2, 3, 4, 5, 0, 6, 7, 8, 9] (lv' := [(0, .ref (a 0)), (1, .ref (nn)), (2, .int (nI (j))), (3, .int (nI (d))), (4, .int (nI (0))), (5, .int (nI (zcnt (fun p => cSt C p = 1) (i) + 1))), (6, .int (bI (AT C (i)))), (7, .int (nI (1))), (8, .int (nI (i))), (9, .int (nI (0)))]) rfl ?_
    refine z_lvc (lv' := [(0, .ref (a 0)), (1, .ref (nn)), (2, .int (nI (j))), (3, .int (nI (d))), (4, .int (nI (0))), (5, .int (nI (zcnt (fun p => cSt C p = 1) (i + 1)))), (6, .int (bI (AT C (i)))), (7, .int (nI (1))), (8, .int (nI (i))), (9, .int (nI (0)))]) (by first | (rw [zcnt_y (P := fun p => cSt C p = 1) c79] <;> rfl) | (rw [← zcnt_n (P := fun p => cSt C p = 1) c79] <;> rfl)) ?_
    exact ha_90 Hb hV hf0 j d hj hd i hi (k + 1) (n + 6) KB NB hKB hNB (by omega) (by omega) kk
set_option maxHeartbeats 4000000 in
set_option maxRecDepth 100000 in
theorem ha_Wo {X : zX} {l : Launch} {D : va_G} {g : zG} {A : Nat → Prop} {a : Nat → Nat} {C : zMS} {f : Nat → Int32} {nn : Nat} (Hb : haB X l D g A a C f nn) (hV : KV C) (hf0 : f 0 = nI (cM C)) (j d : Nat) (hj : j < 2 ^ 31) (hd : d ≤ cT C) (i : Nat) (hi : i < cP C) (q : Nat) (hq : q = 8) (k n KB NB : Nat) (hKB : KB ≤ 7184) (hNB : NB ≤ 43104) (hk : k + 73 ≤ KB) (hn : n + 438 ≤ NB) (kk : ∀ (k2 n2 : Nat), k2 ≤ KB → n2 ≤ NB → zJ X 13 (zI1 D A (zs X)) (haQ X D g A a C f nn) ([(nn, .inl (g.1, 3, .inl f))] ++ wC g a C (4 * cM C)) k2 n2 [(0, .ref (a 0)), (1, .ref (nn)), (2, .int (nI (j))), (3, .int (nI (d))), (4, .int (nI (0))), (5, .int (nI (zcnt (fun p => cSt C p = 1) (i + 1)))), (6, .int (bI (AT C (i + 1)))), (7, .int (nI (1))), (8, .int (nI (i + 1)))] 24 []) : zJ X 13 (zI1 D A (zs X)) (haQ X D g A a C f nn) ([(nn, .inl (g.1, 3, .inl f))] ++ wC g a C (4 * cM C)) k n [(0, .ref (a 0)), (1, .ref (nn)), (2, .int (nI (j))), (3, .int (nI (d))), (4, .int (nI (0))), (5, .int (nI (zcnt (fun p => cSt C p = 1) (i)))), (6, .int (bI (AT C (i)))), (7, .int (nI (1))), (8, .int (nI (i))), (9, .int ((zsum (fun x => s_proven C (nI i) (nI x)) (q)))), (10, .int (nI (q)))] 44 [] := by
  obtain ⟨hAe, hl, B, hr, hLF, hst⟩ := id Hb
  have hI := KV_I hV
  have hJ := KV_J hV
  have bP := CI_b19 hI
  have bM := CI_b20 hI
  have bK := CI_b22 hI
  have bT := CI_b0 hI
  refine z_iload B 10 dL_holdsAll_44 rfl ?_
  refine z_bipush (v := nI 8) B dL_holdsAll_46 (by decide) ?_
  refine z_icmpN_ge B 70 dL_holdsAll_48 (by decide) (by omega) (by omega) (fun _ => ?_) (fun q => absurd q (by omega))
  refine z_loc [0, 1, 2, 3, 4, 5, 6, 7, 8, 9] (lv' := [(0, .ref (a 0)), (1, .ref (nn)), (2, .int (nI (j))), (3, .int (nI (d))), (4, .int (nI (0))), (5, .int (nI (zcnt (fun p => cSt C p = 1) (i)))), (6, .int (bI (AT C (i)))), (7, .int (nI (1))), (8, .int (nI (i))), (9, .int ((zsum (fun x => s_proven C (nI i) (nI x)) (q))))]) rfl ?_
  refine z_lvc (lv' := [(0, .ref (a 0)), (1, .ref (nn)), (2, .int (nI (j))), (3, .int (nI (d))), (4, .int (nI (0))), (5, .int (nI (zcnt (fun p => cSt C p = 1) (i)))), (6, .int (bI (AT C (i)))), (7, .int (nI (1))), (8, .int (nI (i))), (9, .int (nI (0)))]) (by subst hq; rw [ha_own hV hi]) ?_
  exact ha_70 Hb hV hf0 j d hj hd i hi (k) (n) KB NB hKB hNB (by omega) (by omega) kk
set_option maxHeartbeats 4000000 in
set_option maxRecDepth 100000 in
theorem ha_Wi {X : zX} {l : Launch} {D : va_G} {g : zG} {A : Nat → Prop} {a : Nat → Nat} {C : zMS} {f : Nat → Int32} {nn : Nat} (Hb : haB X l D g A a C f nn) (hV : KV C) (hf0 : f 0 = nI (cM C)) (j d : Nat) (hj : j < 2 ^ 31) (hd : d ≤ cT C) (i : Nat) (hi : i < cP C) (q : Nat) (hq : q < 8) (k n KB NB : Nat) (hKB : KB ≤ 7184) (hNB : NB ≤ 43104) (hk : k + 2 ≤ KB) (hn : n + 12 ≤ NB) (kk : ∀ (k2 n2 : Nat), k2 ≤ KB → n2 ≤ NB → zJ X 13 (zI1 D A (zs X)) (haQ X D g A a C f nn) ([(nn, .inl (g.1, 3, .inl f))] ++ wC g a C (4 * cM C)) k2 n2 [(0, .ref (a 0)), (1, .ref (nn)), (2, .int (nI (j))), (3, .int (nI (d))), (4, .int (nI (0))), (5, .int (nI (zcnt (fun p => cSt C p = 1) (i)))), (6, .int (bI (AT C (i)))), (7, .int (nI (1))), (8, .int (nI (i))), (9, .int ((zsum (fun x => s_proven C (nI i) (nI x)) (q + 1)))), (10, .int (nI (q + 1)))] 44 []) : zJ X 13 (zI1 D A (zs X)) (haQ X D g A a C f nn) ([(nn, .inl (g.1, 3, .inl f))] ++ wC g a C (4 * cM C)) k n [(0, .ref (a 0)), (1, .ref (nn)), (2, .int (nI (j))), (3, .int (nI (d))), (4, .int (nI (0))), (5, .int (nI (zcnt (fun p => cSt C p = 1) (i)))), (6, .int (bI (AT C (i)))), (7, .int (nI (1))), (8, .int (nI (i))), (9, .int ((zsum (fun x => s_proven C (nI i) (nI x)) (q)))), (10, .int (nI (q)))] 44 [] := by
  obtain ⟨hAe, hl, B, hr, hLF, hst⟩ := id Hb
  have hI := KV_I hV
  have hJ := KV_J hV
  have bP := CI_b19 hI
  have bM := CI_b20 hI
  have bK := CI_b22 hI
  have bT := CI_b0 hI
  refine z_iload B 10 dL_holdsAll_44 rfl ?_
  refine z_bipush (v := nI 8) B dL_holdsAll_46 (by decide) ?_
  refine z_icmpN_ge B 70 dL_holdsAll_48 (by decide) (by omega) (by omega) (fun q => absurd q (by omega)) (fun _ => ?_)
  refine z_iload B 9 dL_holdsAll_51 rfl ?_
  refine z_aload_n B 0 dL_holdsAll_53 rfl rfl ?_
  refine z_iload B 8 dL_holdsAll_54 rfl ?_
  refine z_iload B 10 dL_holdsAll_56 rfl ?_
  refine z_callW (As := [.ref (a 0), .int (nI (i)), .int (nI (q))]) (st := [.int ((zsum (fun x => s_proven C (nI i) (nI x)) (q)))])  B hLF hl (fo_proven l D g a C hst hI (nI (i)) (nI (q))) gL_holdsAll_L_proven rfl ⟨rfl, rfl⟩ nm_L_proven ⟨by decide, by decide⟩ rfl (Nat.le_of_ble_eq_true rfl) dL_holdsAll_58 (by omega) (by omega) (show k + 2 ≤ 7184 by omega) (show n + 12 ≤ 43104 by omega) (fun r w1 hpq => ?_)
  obtain ⟨rfl, rfl⟩ := hpq
  refine z_iadd B dL_holdsAll_61 ?_
  refine z_istore (lv1 := [(9, .int (((zsum (fun x => s_proven C (nI i) (nI x)) (q)) + (s_proven C (nI (i)) (nI (q)))))), (0, .ref (a 0)), (1, .ref (nn)), (2, .int (nI (j))), (3, .int (nI (d))), (4, .int (nI (0))), (5, .int (nI (zcnt (fun p => cSt C p = 1) (i)))), (6, .int (bI (AT C (i)))), (7, .int (nI (1))), (8, .int (nI (i))), (10, .int (nI (q)))]) B dL_holdsAll_62 (by decide) rfl ?_
  refine z_iinc B 10 (lv1 := [(10, .int (nI (q + 1))), (9, .int (((zsum (fun x => s_proven C (nI i) (nI x)) (q)) + (s_proven C (nI (i)) (nI (q)))))), (0, .ref (a 0)), (1, .ref (nn)), (2, .int (nI (j))), (3, .int (nI (d))), (4, .int (nI (0))), (5, .int (nI (zcnt (fun p => cSt C p = 1) (i)))), (6, .int (bI (AT C (i)))), (7, .int (nI (1))), (8, .int (nI (i)))]) dL_holdsAll_64 rfl (nI_1 _) (by decide) rfl ?_
  refine z_goto B 44 dL_holdsAll_67 (by decide) ?_
  refine z_loc [2, 3, 4, 5, 6, 7, 8, 9, 10, 1, 0] (lv' := [(0, .ref (a 0)), (1, .ref (nn)), (2, .int (nI (j))), (3, .int (nI (d))), (4, .int (nI (0))), (5, .int (nI (zcnt (fun p => cSt C p = 1) (i)))), (6, .int (bI (AT C (i)))), (7, .int (nI (1))), (8, .int (nI (i))), (9, .int (((zsum (fun x => s_proven C (nI i) (nI x)) (q)) + (s_proven C (nI (i)) (nI (q)))))), (10, .int (nI (q + 1)))]) rfl ?_
  refine z_lvc (lv' := [(0, .ref (a 0)), (1, .ref (nn)), (2, .int (nI (j))), (3, .int (nI (d))), (4, .int (nI (0))), (5, .int (nI (zcnt (fun p => cSt C p = 1) (i)))), (6, .int (bI (AT C (i)))), (7, .int (nI (1))), (8, .int (nI (i))), (9, .int ((zsum (fun x => s_proven C (nI i) (nI x)) (q + 1)))), (10, .int (nI (q + 1)))]) (by rfl) ?_
  exact kk (k + 2) (n + 12) (by omega) (by omega)
set_option maxHeartbeats 4000000 in
set_option maxRecDepth 100000 in
theorem ha_W {X : zX} {l : Launch} {D : va_G} {g : zG} {A : Nat → Prop} {a : Nat → Nat} {C : zMS} {f : Nat → Int32} {nn : Nat} (Hb : haB X l D g A a C f nn) (hV : KV C) (hf0 : f 0 = nI (cM C)) (j d : Nat) (hj : j < 2 ^ 31) (hd : d ≤ cT C) (i : Nat) (hi : i < cP C) (KB NB : Nat) (hKB : KB ≤ 7184) (hNB : NB ≤ 43104) (kk : ∀ (k2 n2 : Nat), k2 ≤ KB → n2 ≤ NB → zJ X 13 (zI1 D A (zs X)) (haQ X D g A a C f nn) ([(nn, .inl (g.1, 3, .inl f))] ++ wC g a C (4 * cM C)) k2 n2 [(0, .ref (a 0)), (1, .ref (nn)), (2, .int (nI (j))), (3, .int (nI (d))), (4, .int (nI (0))), (5, .int (nI (zcnt (fun p => cSt C p = 1) (i + 1)))), (6, .int (bI (AT C (i + 1)))), (7, .int (nI (1))), (8, .int (nI (i + 1)))] 24 []) : ∀ (u q k n : Nat), q + u = 8 → k + (2 * u + 73) ≤ KB → n + (12 * u + 438) ≤ NB → zJ X 13 (zI1 D A (zs X)) (haQ X D g A a C f nn) ([(nn, .inl (g.1, 3, .inl f))] ++ wC g a C (4 * cM C)) k n [(0, .ref (a 0)), (1, .ref (nn)), (2, .int (nI (j))), (3, .int (nI (d))), (4, .int (nI (0))), (5, .int (nI (zcnt (fun p => cSt C p = 1) (i)))), (6, .int (bI (AT C (i)))), (7, .int (nI (1))), (8, .int (nI (i))), (9, .int ((zsum (fun x => s_proven C (nI i) (nI x)) (q)))), (10, .int (nI (q)))] 44 [] := by
  intro u
  induction u with
  | zero =>
    intro q k n hlp hk hn
    exact ha_Wo Hb hV hf0 j d hj hd i hi q (by omega) k n KB NB hKB hNB (by omega) (by omega) kk
  | succ u ih =>
    intro q k n hlp hk hn
    exact ha_Wi Hb hV hf0 j d hj hd i hi q (by omega) k n (k + 2) (n + 12) (by omega) (by omega) (Nat.le_refl _) (Nat.le_refl _) (fun k2 n2 h1 h2 => ih (q + 1) k2 n2 (by omega) (by omega) (by omega))

set_option maxHeartbeats 4000000 in
set_option maxRecDepth 100000 in
theorem ha_Ai {X : zX} {l : Launch} {D : va_G} {g : zG} {A : Nat → Prop} {a : Nat → Nat} {C : zMS} {f : Nat → Int32} {nn : Nat} (Hb : haB X l D g A a C f nn) (hV : KV C) (hf0 : f 0 = nI (cM C)) (j d : Nat) (hj : j < 2 ^ 31) (hd : d ≤ cT C) (i : Nat) (hi : i < cP C) (k n KB NB : Nat) (hKB : KB ≤ 7184) (hNB : NB ≤ 43104) (hk : k + 89 ≤ KB) (hn : n + 534 ≤ NB) (kk : ∀ (k2 n2 : Nat), k2 ≤ KB → n2 ≤ NB → zJ X 13 (zI1 D A (zs X)) (haQ X D g A a C f nn) ([(nn, .inl (g.1, 3, .inl f))] ++ wC g a C (4 * cM C)) k2 n2 [(0, .ref (a 0)), (1, .ref (nn)), (2, .int (nI (j))), (3, .int (nI (d))), (4, .int (nI (0))), (5, .int (nI (zcnt (fun p => cSt C p = 1) (i + 1)))), (6, .int (bI (AT C (i + 1)))), (7, .int (nI (1))), (8, .int (nI (i + 1)))] 24 []) : zJ X 13 (zI1 D A (zs X)) (haQ X D g A a C f nn) ([(nn, .inl (g.1, 3, .inl f))] ++ wC g a C (4 * cM C)) k n [(0, .ref (a 0)), (1, .ref (nn)), (2, .int (nI (j))), (3, .int (nI (d))), (4, .int (nI (0))), (5, .int (nI (zcnt (fun p => cSt C p = 1) (i)))), (6, .int (bI (AT C (i)))), (7, .int (nI (1))), (8, .int (nI (i)))] 24 [] := by
  obtain ⟨hAe, hl, B, hr, hLF, hst⟩ := id Hb
  have hI := KV_I hV
  have hJ := KV_J hV
  have bP := CI_b19 hI
  have bM := CI_b20 hI
  have bK := CI_b22 hI
  have bT := CI_b0 hI
  refine z_iload B 8 dL_holdsAll_24 rfl ?_
  refine z_aload_n B 0 dL_holdsAll_26 rfl rfl ?_
  refine z_callP (As := []) (st := [.int (nI (i))]) (C := RX6) (T := TX6) (N := 6) (ci := 6) (l := l) B hl (cc_X6_pages l D g a C (4 * cM C) hI) gL_holdsAll_X6_pages rfl ⟨rfl, rfl⟩ nm_X6_pages ⟨by decide, by decide⟩ (fun _ h => sub_r h) 0 rfl rfl rfl (Nat.le_of_ble_eq_true rfl) dL_holdsAll_27 (show k ≤ 7184 by omega) (show n ≤ 43104 by omega) (fun r hr1 => ?_)
  obtain rfl := hr1
  refine z_icmpN_ge B 282 dL_holdsAll_30 (by decide) (by omega) (by omega) (fun q => absurd q (by omega)) (fun _ => ?_)
  refine z_iload B 7 dL_holdsAll_33 rfl ?_
  refine z_if_eq B 282 dL_holdsAll_35 (by decide) (fun h => absurd h (by decide)) (fun _ => ?_)
  refine z_iconst (v := nI 0) B dL_holdsAll_38 (by decide) ?_
  refine z_istore (lv1 := [(9, .int (nI (0))), (0, .ref (a 0)), (1, .ref (nn)), (2, .int (nI (j))), (3, .int (nI (d))), (4, .int (nI (0))), (5, .int (nI (zcnt (fun p => cSt C p = 1) (i)))), (6, .int (bI (AT C (i)))), (7, .int (nI (1))), (8, .int (nI (i)))]) B dL_holdsAll_39 (by decide) rfl ?_
  refine z_iconst (v := nI 0) B dL_holdsAll_41 (by decide) ?_
  refine z_istore (lv1 := [(10, .int (nI (0))), (9, .int (nI (0))), (0, .ref (a 0)), (1, .ref (nn)), (2, .int (nI (j))), (3, .int (nI (d))), (4, .int (nI (0))), (5, .int (nI (zcnt (fun p => cSt C p = 1) (i)))), (6, .int (bI (AT C (i)))), (7, .int (nI (1))), (8, .int (nI (i)))]) B dL_holdsAll_42 (by decide) rfl ?_
  refine z_loc [2, 3, 4, 5, 6, 7, 8, 9, 10, 1, 0] (lv' := [(0, .ref (a 0)), (1, .ref (nn)), (2, .int (nI (j))), (3, .int (nI (d))), (4, .int (nI (0))), (5, .int (nI (zcnt (fun p => cSt C p = 1) (i)))), (6, .int (bI (AT C (i)))), (7, .int (nI (1))), (8, .int (nI (i))), (9, .int (nI (0))), (10, .int (nI (0)))]) rfl ?_
  refine z_lvc (lv' := [(0, .ref (a 0)), (1, .ref (nn)), (2, .int (nI (j))), (3, .int (nI (d))), (4, .int (nI (0))), (5, .int (nI (zcnt (fun p => cSt C p = 1) (i)))), (6, .int (bI (AT C (i)))), (7, .int (nI (1))), (8, .int (nI (i))), (9, .int ((zsum (fun x => s_proven C (nI i) (nI x)) (0)))), (10, .int (nI (0)))]) (by rfl) ?_
  exact ha_W Hb hV hf0 j d hj hd i hi KB NB hKB hNB kk 8 0 (k) (n) (by omega) (by omega) (by omega)
set_option maxHeartbeats 4000000 in
set_option maxRecDepth 100000 in
theorem ha_A {X : zX} {l : Launch} {D : va_G} {g : zG} {A : Nat → Prop} {a : Nat → Nat} {C : zMS} {f : Nat → Int32} {nn : Nat} (Hb : haB X l D g A a C f nn) (hV : KV C) (hf0 : f 0 = nI (cM C)) (j d : Nat) (hj : j < 2 ^ 31) (hd : d ≤ cT C) : ∀ (u i k n : Nat), i + u = cP C → k + (89 * u + 64) ≤ 7184 → n + (534 * u + 384) ≤ 43104 → zJ X 13 (zI1 D A (zs X)) (haQ X D g A a C f nn) ([(nn, .inl (g.1, 3, .inl f))] ++ wC g a C (4 * cM C)) k n [(0, .ref (a 0)), (1, .ref (nn)), (2, .int (nI (j))), (3, .int (nI (d))), (4, .int (nI (0))), (5, .int (nI (zcnt (fun p => cSt C p = 1) (i)))), (6, .int (bI (AT C (i)))), (7, .int (nI (1))), (8, .int (nI (i)))] 24 [] := by
  intro u
  induction u with
  | zero =>
    intro i k n hlp hk hn
    exact ha_Ao Hb hV hf0 j d hj hd i (by omega) k n (by omega) (by omega)
  | succ u ih =>
    intro i k n hlp hk hn
    exact ha_Ai Hb hV hf0 j d hj hd i (by omega) k n (k + 89) (n + 534) (by omega) (by omega) (Nat.le_refl _) (Nat.le_refl _) (fun k2 n2 h1 h2 => ih (i + 1) k2 n2 (by omega) (by omega) (by omega))

set_option maxHeartbeats 4000000 in
set_option maxRecDepth 100000 in
theorem ha_0 {X : zX} {l : Launch} {D : va_G} {g : zG} {A : Nat → Prop} {a : Nat → Nat} {C : zMS} {f : Nat → Int32} {nn : Nat} (Hb : haB X l D g A a C f nn) (hV : KV C) (hf0 : f 0 = nI (cM C)) (j : Nat) (hj : j < 2 ^ 31) (k n : Nat) (hk : k + 7184 ≤ 7184) (hn : n + 43104 ≤ 43104) : zJ X 13 (zI1 D A (zs X)) (haQ X D g A a C f nn) ([(nn, .inl (g.1, 3, .inl f))] ++ wC g a C (4 * cM C)) k n [(0, .ref (a 0)), (1, .ref (nn)), (2, .int (nI (j)))] 0 [] := by
  obtain ⟨hAe, hl, B, hr, hLF, hst⟩ := id Hb
  have hI := KV_I hV
  have hJ := KV_J hV
  have bP := CI_b19 hI
  have bM := CI_b20 hI
  have bK := CI_b22 hI
  have bT := CI_b0 hI
  refine z_iload_n B 2 dL_holdsAll_0 rfl rfl ?_
  refine z_aload_n B 0 dL_holdsAll_1 rfl rfl ?_
  refine z_callP (As := []) (st := [.int (nI (j))]) (C := RX6) (T := TX6) (N := 6) (ci := 6) (l := l) B hl (cc_X6_day l D g a C (4 * cM C) hI) gL_holdsAll_X6_day rfl ⟨rfl, rfl⟩ nm_X6_day ⟨by decide, by decide⟩ (fun _ h => sub_r h) 0 rfl rfl rfl (Nat.le_of_ble_eq_true rfl) dL_holdsAll_2 (show k ≤ 7184 by omega) (show n ≤ 43104 by omega) (fun r hr1 => ?_)
  obtain rfl := hr1
  refine z_iconst (v := nI 1) B dL_holdsAll_5 (by decide) ?_
  refine z_iaddN B dL_holdsAll_6 ?_
  refine z_iremN B (by omega) (by omega) (by omega) dL_holdsAll_7 ?_
  refine z_istore_n (lv1 := [(3, .int (nI (j % (cT C + 1)))), (0, .ref (a 0)), (1, .ref (nn)), (2, .int (nI (j)))]) B dL_holdsAll_8 rfl (by decide) rfl ?_
  refine z_iconst (v := nI 0) B dL_holdsAll_9 (by decide) ?_
  refine z_istore (lv1 := [(4, .int (nI (0))), (3, .int (nI (j % (cT C + 1)))), (0, .ref (a 0)), (1, .ref (nn)), (2, .int (nI (j)))]) B dL_holdsAll_10 (by decide) rfl ?_
  refine z_iconst (v := nI 0) B dL_holdsAll_12 (by decide) ?_
  refine z_istore (lv1 := [(5, .int (nI (0))), (4, .int (nI (0))), (3, .int (nI (j % (cT C + 1)))), (0, .ref (a 0)), (1, .ref (nn)), (2, .int (nI (j)))]) B dL_holdsAll_13 (by decide) rfl ?_
  refine z_iconst (v := nI 1) B dL_holdsAll_15 (by decide) ?_
  refine z_istore (lv1 := [(6, .int (nI (1))), (5, .int (nI (0))), (4, .int (nI (0))), (3, .int (nI (j % (cT C + 1)))), (0, .ref (a 0)), (1, .ref (nn)), (2, .int (nI (j)))]) B dL_holdsAll_16 (by decide) rfl ?_
  refine z_iconst (v := nI 1) B dL_holdsAll_18 (by decide) ?_
  refine z_istore (lv1 := [(7, .int (nI (1))), (6, .int (nI (1))), (5, .int (nI (0))), (4, .int (nI (0))), (3, .int (nI (j % (cT C + 1)))), (0, .ref (a 0)), (1, .ref (nn)), (2, .int (nI (j)))]) B dL_holdsAll_19 (by decide) rfl ?_
  refine z_iconst (v := nI 0) B dL_holdsAll_21 (by decide) ?_
  refine z_istore (lv1 := [(8, .int (nI (0))), (7, .int (nI (1))), (6, .int (nI (1))), (5, .int (nI (0))), (4, .int (nI (0))), (3, .int (nI (j % (cT C + 1)))), (0, .ref (a 0)), (1, .ref (nn)), (2, .int (nI (j)))]) B dL_holdsAll_22 (by decide) rfl ?_
  refine z_loc [6, 7, 8, 5, 4, 3, 2, 1, 0] (lv' := [(0, .ref (a 0)), (1, .ref (nn)), (2, .int (nI (j))), (3, .int (nI (j % (cT C + 1)))), (4, .int (nI (0))), (5, .int (nI (0))), (6, .int (nI (1))), (7, .int (nI (1))), (8, .int (nI (0)))]) rfl ?_
  refine z_lvc (lv' := [(0, .ref (a 0)), (1, .ref (nn)), (2, .int (nI (j))), (3, .int (nI (j % (cT C + 1)))), (4, .int (nI (0))), (5, .int (nI (zcnt (fun p => cSt C p = 1) (0)))), (6, .int (bI (AT C (0)))), (7, .int (nI (1))), (8, .int (nI (0)))]) (by rw [← bI_1 (P := AT C 0) AT_0] <;> rfl) ?_
  exact ha_A Hb hV hf0 j (j % (cT C + 1)) hj (Nat.le_of_lt_succ (Nat.mod_lt _ (Nat.succ_pos _))) (cP C) 0 (k) (n) (by omega) (by omega) (by omega)
theorem c_holdsAll (l : Launch) (D : va_G) (g : zG) (a : Nat → Nat) (C : zMS) (f : Nat → Int32) (nn j : Nat) (hst : l.stackTraces = false) (hV : KV C) (hf0 : f 0 = nI (cM C)) (hj : j < 2 ^ 31) : zWrp l yL_holdsAll wsL_holdsAll { frames := 9, cells := 7184, slots := 43104, locals := 183 } D (zT g) ([(nn, .inl (g.1, 3, .inl f))] ++ wC g a C (4 * cM C)) [.ref (a 0), .ref nn, .int (nI j)] (fun r w' => r = nI 1 ∧ w' = [(nn, .inl (g.1, 3, .inl f))] ++ wC g a C (4 * cM C)) 7184 43104 := by
  refine zLwI_of (cc := cL_holdsAll) (maxL := 13) (ret := some .boolean) (own := RL) [(0, .ref (a 0)), (1, .ref nn), (2, .int (nI j))] (by decide) rfl rfl rfl (Nat.le_of_ble_eq_true rfl) ?_
  intro X A hAe hl B hr hLF
  have Hb : haB X l D g A a C f nn := ⟨hAe, hl, B, hr, hLF, hst⟩
  exact ha_0 Hb hV hf0 j hj 0 0 (by omega) (by omega)
