/-! the law's refuses -/
def rfB (X : zX) (l : Launch) (D : va_G) (g : zG) (A : Nat → Prop) (a : Nat → Nat) (C : zMS) (f : Nat → Int32) (nn : Nat) : Prop := A = va_A ([(nn, .inl (g.1, 3, .inl f))] ++ wC g a C (4 * cM C)) (zs X).heap.size ∧ zl X = l ∧ zB X RL cL_refuses 12 wsL_refuses { frames := 9, cells := 278, slots := 2817, locals := 183 } D (zT g) (zI1 D A (zs X)) ∧ (zmeth X).sig.returnType = some .boolean ∧ zLF A (zs X) (zs X).heap ∧ l.stackTraces = false
abbrev rfQ (X : zX) (D : va_G) (g : zG) (A : Nat → Prop) (a : Nat → Nat) (C : zMS) (f : Nat → Int32) (nn : Nat) : State → Prop := zQe X (va_Qi (fun r w' => r = nI 1 ∧ w' = [(nn, .inl (g.1, 3, .inl f))] ++ wC g a C (4 * cM C)) (zEnd D (zT g) ([(nn, .inl (g.1, 3, .inl f))] ++ wC g a C (4 * cM C)) (zs X).heap.size) A) 278 2817 A
set_option maxHeartbeats 4000000 in
set_option maxRecDepth 100000 in
theorem rf_1103 {X : zX} {l : Launch} {D : va_G} {g : zG} {A : Nat → Prop} {a : Nat → Nat} {C : zMS} {f : Nat → Int32} {nn : Nat} (Hb : rfB X l D g A a C f nn) (hV : KV C) (hf0 : f 0 = nI (cM C)) (hf1 : f 1 = nI (cK C)) (k n : Nat) (hk : k + 0 ≤ 278) (hn : n + 0 ≤ 2817) : zJ X 12 (zI1 D A (zs X)) (rfQ X D g A a C f nn) ([(nn, .inl (g.1, 3, .inl f))] ++ wC g a C (4 * cM C)) k n [(9, .int (nI (1)))] 1103 [] := by
  obtain ⟨hAe, hl, B, hr, hLF, hst⟩ := id Hb
  have hI := KV_I hV
  have hJ := KV_J hV
  have bP := CI_b19 hI
  have bM := CI_b20 hI
  have bK := CI_b22 hI
  have bT := CI_b0 hI
  refine z_iload B 0 dL_refuses_1103 rfl ?_
  exact z_mret B hAe hr dL_refuses_1105 rfl (by omega) (by omega) (⟨rfl, rfl⟩)
set_option maxHeartbeats 4000000 in
set_option maxRecDepth 100000 in
theorem rf_l3o {X : zX} {l : Launch} {D : va_G} {g : zG} {A : Nat → Prop} {a : Nat → Nat} {C : zMS} {f : Nat → Int32} {nn : Nat} (Hb : rfB X l D g A a C f nn) (hV : KV C) (hf0 : f 0 = nI (cM C)) (hf1 : f 1 = nI (cK C)) (j : Nat) (hj : j < 9973) (i : Nat) (hi : i = cM C) (k n : Nat) (hk : k + 0 ≤ 278) (hn : n + 0 ≤ 2817) : zJ X 12 (zI1 D A (zs X)) (rfQ X D g A a C f nn) ([(nn, .inl (g.1, 3, .inl f))] ++ wC g a C (4 * cM C)) k n [(0, .ref (a 0)), (1, .ref (nn)), (2, .int (nI (j))), (8, .int (nI (j % 8))), (9, .int (nI (1))), (10, .int (nI (i)))] 1047 [] := by
  obtain ⟨hAe, hl, B, hr, hLF, hst⟩ := id Hb
  have hI := KV_I hV
  have hJ := KV_J hV
  have bP := CI_b19 hI
  have bM := CI_b20 hI
  have bK := CI_b22 hI
  have bT := CI_b0 hI
  refine z_iload B 5 dL_refuses_1047 rfl ?_
  refine z_aload_n B 1 dL_refuses_1049 rfl rfl ?_
  refine z_iconst (v := nI 0) B dL_refuses_1050 (by decide) ?_
  refine z_iald (g := f) (i := 0) B 0 0 rfl rfl (by omega) (by decide) dL_refuses_1051 ?_
  refine z_top (y := nI (cM C)) hf0 ?_
  refine z_icmpN_ge B 1103 dL_refuses_1052 (by decide) (by omega) (by omega) (fun _ => ?_) (fun q => absurd q (by omega))
  refine z_loc [4] (lv' := [(9, .int (nI (1)))]) rfl ?_
  exact rf_1103 Hb hV hf0 hf1 (k) (n) (by omega) (by omega)
set_option maxHeartbeats 4000000 in
set_option maxRecDepth 100000 in
theorem rf_l3i {X : zX} {l : Launch} {D : va_G} {g : zG} {A : Nat → Prop} {a : Nat → Nat} {C : zMS} {f : Nat → Int32} {nn : Nat} (Hb : rfB X l D g A a C f nn) (hV : KV C) (hf0 : f 0 = nI (cM C)) (hf1 : f 1 = nI (cK C)) (j : Nat) (hj : j < 9973) (i : Nat) (hi : i < cM C) (k n KB NB : Nat) (hKB : KB ≤ 278) (hNB : NB ≤ 2817) (hk : k + 4 ≤ KB) (hn : n + 24 ≤ NB) (kk : ∀ (k2 n2 : Nat), k2 ≤ KB → n2 ≤ NB → zJ X 12 (zI1 D A (zs X)) (rfQ X D g A a C f nn) ([(nn, .inl (g.1, 3, .inl f))] ++ wC g a C (4 * cM C)) k2 n2 [(0, .ref (a 0)), (1, .ref (nn)), (2, .int (nI (j))), (8, .int (nI (j % 8))), (9, .int (nI (1))), (10, .int (nI (i + 1)))] 1047 []) : zJ X 12 (zI1 D A (zs X)) (rfQ X D g A a C f nn) ([(nn, .inl (g.1, 3, .inl f))] ++ wC g a C (4 * cM C)) k n [(0, .ref (a 0)), (1, .ref (nn)), (2, .int (nI (j))), (8, .int (nI (j % 8))), (9, .int (nI (1))), (10, .int (nI (i)))] 1047 [] := by
  obtain ⟨hAe, hl, B, hr, hLF, hst⟩ := id Hb
  have hI := KV_I hV
  have hJ := KV_J hV
  have bP := CI_b19 hI
  have bM := CI_b20 hI
  have bK := CI_b22 hI
  have bT := CI_b0 hI
  have ei : nN (nI i) = i := nN_nI (by omega)
  refine z_iload B 5 dL_refuses_1047 rfl ?_
  refine z_aload_n B 1 dL_refuses_1049 rfl rfl ?_
  refine z_iconst (v := nI 0) B dL_refuses_1050 (by decide) ?_
  refine z_iald (g := f) (i := 0) B 0 0 rfl rfl (by omega) (by decide) dL_refuses_1051 ?_
  refine z_top (y := nI (cM C)) hf0 ?_
  refine z_icmpN_ge B 1103 dL_refuses_1052 (by decide) (by omega) (by omega) (fun q => absurd q (by omega)) (fun _ => ?_)
  refine z_iload B 4 dL_refuses_1055 rfl ?_
  refine z_if_eq B 1103 dL_refuses_1057 (by decide) (fun h => absurd h (by decide)) (fun _ => ?_)
  refine z_aload_n B 0 dL_refuses_1060 rfl rfl ?_
  refine z_iload B 5 dL_refuses_1061 rfl ?_
  refine z_callW (As := [.ref (a 0), .int (nI (i))]) (st := [])  B hLF hl (fo_size l D g a C hst hI hJ (nI (i))) gL_refuses_L_size rfl ⟨rfl, rfl⟩ nm_L_size ⟨by decide, by decide⟩ rfl (Nat.le_of_ble_eq_true rfl) dL_refuses_1063 (by omega) (by omega) (show k + 1 ≤ 278 by omega) (show n + 6 ≤ 2817 by omega) (fun r w1 hpq => ?_)
  obtain ⟨rfl, rfl⟩ := hpq
  refine z_if_lt B 1090 dL_refuses_1066 (by decide) (fun c1066 => ?_) (fun c1066 => ?_)
  · refine z_iconst (v := nI 1) B dL_refuses_1090 (by decide) ?_
    refine z_goto B 1095 dL_refuses_1091 (by decide) ?_
    refine z_istore (lv1 := [(9, .int (nI (1))), (0, .ref (a 0)), (1, .ref (nn)), (2, .int (nI (j))), (8, .int (nI (j % 8))), (10, .int (nI (i)))]) B dL_refuses_1095 (by decide) rfl ?_
    refine z_iinc B 5 (lv1 := [(10, .int (nI (i + 1))), (9, .int (nI (1))), (0, .ref (a 0)), (1, .ref (nn)), (2, .int (nI (j))), (8, .int (nI (j % 8)))]) dL_refuses_1097 rfl (nI_1 _) (by decide) rfl ?_
    refine z_goto B 1047 dL_refuses_1100 (by decide) ?_
    refine z_loc [2, 3, 4, 5, 1, 0] (lv' := [(0, .ref (a 0)), (1, .ref (nn)), (2, .int (nI (j))), (8, .int (nI (j % 8))), (9, .int (nI (1))), (10, .int (nI (i + 1)))]) rfl ?_
    exact kk (k + 1) (n + 6) (by omega) (by omega)
  · refine z_aload_n B 0 dL_refuses_1069 rfl rfl ?_
    refine z_iload B 5 dL_refuses_1070 rfl ?_
    refine z_callW (As := [.ref (a 0), .int (nI (i))]) (st := [])  B hLF hl (fo_canRestore l D g a C hst hI hJ (nI (i))) gL_refuses_L_canRestore rfl ⟨rfl, rfl⟩ nm_L_canRestore ⟨by decide, by decide⟩ rfl (Nat.le_of_ble_eq_true rfl) dL_refuses_1072 (by omega) (by omega) (show k + 2 ≤ 278 by omega) (show n + 12 ≤ 2817 by omega) (fun r w1 hpq => ?_)
    obtain ⟨rfl, rfl⟩ := hpq
    refine z_iconst (v := nI 1) B dL_refuses_1075 (by decide) ?_
    refine z_icmp_eq B 1090 dL_refuses_1076 (by decide) (fun c1076 => ?_) (fun c1076 => ?_)
    · refine z_iconst (v := nI 1) B dL_refuses_1090 (by decide) ?_
      refine z_goto B 1095 dL_refuses_1091 (by decide) ?_
      refine z_istore (lv1 := [(9, .int (nI (1))), (0, .ref (a 0)), (1, .ref (nn)), (2, .int (nI (j))), (8, .int (nI (j % 8))), (10, .int (nI (i)))]) B dL_refuses_1095 (by decide) rfl ?_
      refine z_iinc B 5 (lv1 := [(10, .int (nI (i + 1))), (9, .int (nI (1))), (0, .ref (a 0)), (1, .ref (nn)), (2, .int (nI (j))), (8, .int (nI (j % 8)))]) dL_refuses_1097 rfl (nI_1 _) (by decide) rfl ?_
      refine z_goto B 1047 dL_refuses_1100 (by decide) ?_
      refine z_loc [2, 3, 4, 5, 1, 0] (lv' := [(0, .ref (a 0)), (1, .ref (nn)), (2, .int (nI (j))), (8, .int (nI (j % 8))), (9, .int (nI (1))), (10, .int (nI (i + 1)))]) rfl ?_
      exact kk (k + 2) (n + 12) (by omega) (by omega)
    · have hcx : cCx C (nI i) := Classical.byContradiction (fun z => by rw [s_size_0 z] at c1066; exact c1066 negB)
      have hnw : ¬ cWh C (nN (nI i)) := fun z => by rw [s_canRestore_ok hcx] at c1076; exact c1076 (bI_e1.mpr z)
      refine z_aload_n B 0 dL_refuses_1079 rfl rfl ?_
      refine z_iload B 5 dL_refuses_1080 rfl ?_
      refine z_callW (As := [.ref (a 0), .int (nI (i))]) (st := [])  B hLF hl (fo_restores l D g a C hst hI hJ (nI (i))) gL_refuses_L_restores rfl ⟨rfl, rfl⟩ nm_L_restores ⟨by decide, by decide⟩ rfl (Nat.le_of_ble_eq_true rfl) dL_refuses_1082 (by omega) (by omega) (show k + 4 ≤ 278 by omega) (show n + 24 ≤ 2817 by omega) (fun r w1 hpq => ?_)
      obtain ⟨rfl, rfl⟩ := pPost_at (o_restores_1 hcx hnw) hpq
      refine z_ldc (v := (-2000000003)) B 4 rfl dL_refuses_1085 ?_
      refine z_icmp_ne B 1094 dL_refuses_1087 (by decide) (fun q => absurd rfl q) (fun _ => ?_)
      refine z_iconst (v := nI 1) B dL_refuses_1090 (by decide) ?_
      refine z_goto B 1095 dL_refuses_1091 (by decide) ?_
      refine z_istore (lv1 := [(9, .int (nI (1))), (0, .ref (a 0)), (1, .ref (nn)), (2, .int (nI (j))), (8, .int (nI (j % 8))), (10, .int (nI (i)))]) B dL_refuses_1095 (by decide) rfl ?_
      refine z_iinc B 5 (lv1 := [(10, .int (nI (i + 1))), (9, .int (nI (1))), (0, .ref (a 0)), (1, .ref (nn)), (2, .int (nI (j))), (8, .int (nI (j % 8)))]) dL_refuses_1097 rfl (nI_1 _) (by decide) rfl ?_
      refine z_goto B 1047 dL_refuses_1100 (by decide) ?_
      refine z_loc [2, 3, 4, 5, 1, 0] (lv' := [(0, .ref (a 0)), (1, .ref (nn)), (2, .int (nI (j))), (8, .int (nI (j % 8))), (9, .int (nI (1))), (10, .int (nI (i + 1)))]) rfl ?_
      exact kk (k + 4) (n + 24) (by omega) (by omega)
set_option maxHeartbeats 4000000 in
set_option maxRecDepth 100000 in
theorem rf_l3 {X : zX} {l : Launch} {D : va_G} {g : zG} {A : Nat → Prop} {a : Nat → Nat} {C : zMS} {f : Nat → Int32} {nn : Nat} (Hb : rfB X l D g A a C f nn) (hV : KV C) (hf0 : f 0 = nI (cM C)) (hf1 : f 1 = nI (cK C)) (j : Nat) (hj : j < 9973) : ∀ (u i k n : Nat), i + u = cM C → k + (4 * u + 0) ≤ 278 → n + (24 * u + 0) ≤ 2817 → zJ X 12 (zI1 D A (zs X)) (rfQ X D g A a C f nn) ([(nn, .inl (g.1, 3, .inl f))] ++ wC g a C (4 * cM C)) k n [(0, .ref (a 0)), (1, .ref (nn)), (2, .int (nI (j))), (8, .int (nI (j % 8))), (9, .int (nI (1))), (10, .int (nI (i)))] 1047 [] := by
  intro u
  induction u with
  | zero =>
    intro i k n hlp hk hn
    exact rf_l3o Hb hV hf0 hf1 j hj i (by omega) k n (by omega) (by omega)
  | succ u ih =>
    intro i k n hlp hk hn
    exact rf_l3i Hb hV hf0 hf1 j hj i (by omega) k n (k + 4) (n + 24) (by omega) (by omega) (Nat.le_refl _) (Nat.le_refl _) (fun k2 n2 h1 h2 => ih (i + 1) k2 n2 (by omega) (by omega) (by omega))

set_option maxHeartbeats 4000000 in
set_option maxRecDepth 100000 in
theorem rf_1044 {X : zX} {l : Launch} {D : va_G} {g : zG} {A : Nat → Prop} {a : Nat → Nat} {C : zMS} {f : Nat → Int32} {nn : Nat} (Hb : rfB X l D g A a C f nn) (hV : KV C) (hf0 : f 0 = nI (cM C)) (hf1 : f 1 = nI (cK C)) (j : Nat) (hj : j < 9973) (k n : Nat) (hk : k + 64 ≤ 278) (hn : n + 384 ≤ 2817) : zJ X 12 (zI1 D A (zs X)) (rfQ X D g A a C f nn) ([(nn, .inl (g.1, 3, .inl f))] ++ wC g a C (4 * cM C)) k n [(0, .ref (a 0)), (1, .ref (nn)), (2, .int (nI (j))), (8, .int (nI (j % 8))), (9, .int (nI (1)))] 1044 [] := by
  obtain ⟨hAe, hl, B, hr, hLF, hst⟩ := id Hb
  have hI := KV_I hV
  have hJ := KV_J hV
  have bP := CI_b19 hI
  have bM := CI_b20 hI
  have bK := CI_b22 hI
  have bT := CI_b0 hI
  refine z_iconst (v := nI 0) B dL_refuses_1044 (by decide) ?_
  refine z_istore (lv1 := [(10, .int (nI (0))), (0, .ref (a 0)), (1, .ref (nn)), (2, .int (nI (j))), (8, .int (nI (j % 8))), (9, .int (nI (1)))]) B dL_refuses_1045 (by decide) rfl ?_
  refine z_loc [1, 2, 3, 4, 5, 0] (lv' := [(0, .ref (a 0)), (1, .ref (nn)), (2, .int (nI (j))), (8, .int (nI (j % 8))), (9, .int (nI (1))), (10, .int (nI (0)))]) rfl ?_
  exact rf_l3 Hb hV hf0 hf1 j hj (cM C) 0 (k) (n) (by omega) (by omega) (by omega)
set_option maxHeartbeats 4000000 in
set_option maxRecDepth 100000 in
theorem rf_l2o {X : zX} {l : Launch} {D : va_G} {g : zG} {A : Nat → Prop} {a : Nat → Nat} {C : zMS} {f : Nat → Int32} {nn : Nat} (Hb : rfB X l D g A a C f nn) (hV : KV C) (hf0 : f 0 = nI (cM C)) (hf1 : f 1 = nI (cK C)) (j : Nat) (hj : j < 9973) (i : Nat) (hi : i = cK C) (k n : Nat) (hk : k + 64 ≤ 278) (hn : n + 384 ≤ 2817) : zJ X 12 (zI1 D A (zs X)) (rfQ X D g A a C f nn) ([(nn, .inl (g.1, 3, .inl f))] ++ wC g a C (4 * cM C)) k n [(0, .ref (a 0)), (1, .ref (nn)), (2, .int (nI (j))), (8, .int (nI (j % 8))), (9, .int (nI (1))), (10, .int (nI (i)))] 932 [] := by
  obtain ⟨hAe, hl, B, hr, hLF, hst⟩ := id Hb
  have hI := KV_I hV
  have hJ := KV_J hV
  have bP := CI_b19 hI
  have bM := CI_b20 hI
  have bK := CI_b22 hI
  have bT := CI_b0 hI
  refine z_iload B 5 dL_refuses_932 rfl ?_
  refine z_aload_n B 1 dL_refuses_934 rfl rfl ?_
  refine z_iconst (v := nI 1) B dL_refuses_935 (by decide) ?_
  refine z_iald (g := f) (i := 1) B 0 0 rfl rfl (by omega) (by decide) dL_refuses_936 ?_
  refine z_top (y := nI (cK C)) hf1 ?_
  refine z_icmpN_ge B 1044 dL_refuses_937 (by decide) (by omega) (by omega) (fun _ => ?_) (fun q => absurd q (by omega))
  refine z_loc [0, 1, 2, 3, 4] (lv' := [(0, .ref (a 0)), (1, .ref (nn)), (2, .int (nI (j))), (8, .int (nI (j % 8))), (9, .int (nI (1)))]) rfl ?_
  exact rf_1044 Hb hV hf0 hf1 j hj (k) (n) (by omega) (by omega)
set_option maxHeartbeats 4000000 in
set_option maxRecDepth 100000 in
theorem rf_l2i {X : zX} {l : Launch} {D : va_G} {g : zG} {A : Nat → Prop} {a : Nat → Nat} {C : zMS} {f : Nat → Int32} {nn : Nat} (Hb : rfB X l D g A a C f nn) (hV : KV C) (hf0 : f 0 = nI (cM C)) (hf1 : f 1 = nI (cK C)) (j : Nat) (hj : j < 9973) (i : Nat) (hi : i < cK C) (k n KB NB : Nat) (hKB : KB ≤ 278) (hNB : NB ≤ 2817) (hk : k + 7 ≤ KB) (hn : n + 42 ≤ NB) (kk : ∀ (k2 n2 : Nat), k2 ≤ KB → n2 ≤ NB → zJ X 12 (zI1 D A (zs X)) (rfQ X D g A a C f nn) ([(nn, .inl (g.1, 3, .inl f))] ++ wC g a C (4 * cM C)) k2 n2 [(0, .ref (a 0)), (1, .ref (nn)), (2, .int (nI (j))), (8, .int (nI (j % 8))), (9, .int (nI (1))), (10, .int (nI (i + 1)))] 932 []) : zJ X 12 (zI1 D A (zs X)) (rfQ X D g A a C f nn) ([(nn, .inl (g.1, 3, .inl f))] ++ wC g a C (4 * cM C)) k n [(0, .ref (a 0)), (1, .ref (nn)), (2, .int (nI (j))), (8, .int (nI (j % 8))), (9, .int (nI (1))), (10, .int (nI (i)))] 932 [] := by
  obtain ⟨hAe, hl, B, hr, hLF, hst⟩ := id Hb
  have hI := KV_I hV
  have hJ := KV_J hV
  have bP := CI_b19 hI
  have bM := CI_b20 hI
  have bK := CI_b22 hI
  have bT := CI_b0 hI
  have ei : nN (nI i) = i := nN_nI (by omega)
  have hri : rng (nI i) (cK C) := rn_in hi
  have hhere : rng (nI (j % 8)) 8 := rn_in (x := j % 8) (n := 8) (by omega)
  refine z_iload B 5 dL_refuses_932 rfl ?_
  refine z_aload_n B 1 dL_refuses_934 rfl rfl ?_
  refine z_iconst (v := nI 1) B dL_refuses_935 (by decide) ?_
  refine z_iald (g := f) (i := 1) B 0 0 rfl rfl (by omega) (by decide) dL_refuses_936 ?_
  refine z_top (y := nI (cK C)) hf1 ?_
  refine z_icmpN_ge B 1044 dL_refuses_937 (by decide) (by omega) (by omega) (fun q => absurd q (by omega)) (fun _ => ?_)
  refine z_iload B 4 dL_refuses_940 rfl ?_
  refine z_if_eq B 1044 dL_refuses_942 (by decide) (fun h => absurd h (by decide)) (fun _ => ?_)
  refine z_aload_n B 0 dL_refuses_945 rfl rfl ?_
  refine z_iload B 5 dL_refuses_946 rfl ?_
  refine z_callW (As := [.ref (a 0), .int (nI (i))]) (st := [])  B hLF hl (fo_isOpen l D g a C hst hI (nI (i))) gL_refuses_L_isOpen rfl ⟨rfl, rfl⟩ nm_L_isOpen ⟨by decide, by decide⟩ rfl (Nat.le_of_ble_eq_true rfl) dL_refuses_948 (by omega) (by omega) (show k + 1 ≤ 278 by omega) (show n + 6 ≤ 2817 by omega) (fun r w1 hpq => ?_)
  obtain ⟨rfl, rfl⟩ := rPost_at (show s_isOpen C (nI (i)) = (C 21 (nN (nI i))) from s_isOpen_ok hri) hpq
  refine z_iconst (v := nI 1) B dL_refuses_951 (by decide) ?_
  refine z_icmp_ne B 1005 dL_refuses_952 (by decide) (fun c952 => ?_) (fun c952 => ?_)
  · have hno : ¬ (¬ C 21 (nN (nI i)) = 0) := fun z => (CI_z21 hI (nN (nI i))).elim z (fun q => c952 q)
    refine z_aload_n B 0 dL_refuses_1005 rfl rfl ?_
    refine z_iload B 5 dL_refuses_1006 rfl ?_
    refine z_callW (As := [.ref (a 0), .int (nI (i))]) (st := [])  B hLF hl (fo_closes l D g a C hst hI (nI (i))) gL_refuses_L_closes rfl ⟨rfl, rfl⟩ nm_L_closes ⟨by decide, by decide⟩ rfl (Nat.le_of_ble_eq_true rfl) dL_refuses_1008 (by omega) (by omega) (show k + 3 ≤ 278 by omega) (show n + 18 ≤ 2817 by omega) (fun r w1 hpq => ?_)
    obtain ⟨rfl, rfl⟩ := pPost_at (o_closes_1 hri hno) hpq
    refine z_ldc (v := (-2000000003)) B 4 rfl dL_refuses_1011 ?_
    refine z_icmp_ne B 1035 dL_refuses_1013 (by decide) (fun q => absurd rfl q) (fun _ => ?_)
    refine z_aload_n B 0 dL_refuses_1016 rfl rfl ?_
    refine z_iload B 5 dL_refuses_1017 rfl ?_
    refine z_iload B 3 dL_refuses_1019 rfl ?_
    refine z_iconst (v := nI 0) B dL_refuses_1021 (by decide) ?_
    refine z_iconst (v := nI 0) B dL_refuses_1022 (by decide) ?_
    refine z_callW (As := [.ref (a 0), .int (nI (i)), .int (nI (j % 8)), .int (nI (0)), .int (nI (0))]) (st := [])  B hLF hl (fo_holds l D g a C hst hI (nI (i)) (nI (j % 8)) (nI (0)) (nI (0))) gL_refuses_L_holds rfl ⟨rfl, rfl⟩ nm_L_holds ⟨by decide, by decide⟩ rfl (Nat.le_of_ble_eq_true rfl) dL_refuses_1023 (by omega) (by omega) (show k + 6 ≤ 278 by omega) (show n + 36 ≤ 2817 by omega) (fun r w1 hpq => ?_)
    obtain ⟨rfl, rfl⟩ := pPost_at (o_holds_3 hri hhere ⟨by decide, by decide, by decide⟩ (fun z => hno z.1)) hpq
    refine z_ldc (v := (-2000000003)) B 4 rfl dL_refuses_1026 ?_
    refine z_icmp_ne B 1035 dL_refuses_1028 (by decide) (fun q => absurd rfl q) (fun _ => ?_)
    refine z_iconst (v := nI 1) B dL_refuses_1031 (by decide) ?_
    refine z_goto B 1036 dL_refuses_1032 (by decide) ?_
    refine z_istore (lv1 := [(9, .int (nI (1))), (0, .ref (a 0)), (1, .ref (nn)), (2, .int (nI (j))), (8, .int (nI (j % 8))), (10, .int (nI (i)))]) B dL_refuses_1036 (by decide) rfl ?_
    refine z_iinc B 5 (lv1 := [(10, .int (nI (i + 1))), (9, .int (nI (1))), (0, .ref (a 0)), (1, .ref (nn)), (2, .int (nI (j))), (8, .int (nI (j % 8)))]) dL_refuses_1038 rfl (nI_1 _) (by decide) rfl ?_
    refine z_goto B 932 dL_refuses_1041 (by decide) ?_
    refine z_loc [2, 3, 4, 5, 1, 0] (lv' := [(0, .ref (a 0)), (1, .ref (nn)), (2, .int (nI (j))), (8, .int (nI (j % 8))), (9, .int (nI (1))), (10, .int (nI (i + 1)))]) rfl ?_
    exact kk (k + 6) (n + 36) (by omega) (by omega)
  · refine z_aload_n B 1 dL_refuses_955 rfl rfl ?_
    refine z_iconst (v := nI 2) B dL_refuses_956 (by decide) ?_
    refine z_iald (g := f) (i := 2) B 0 0 rfl rfl (by omega) (by decide) dL_refuses_957 ?_
    refine z_bipush (v := nI 30) B dL_refuses_958 (by decide) ?_
    refine z_icmp_eq B 997 dL_refuses_960 (by decide) (fun c960 => ?_) (fun c960 => ?_)
    · refine z_iconst (v := nI 1) B dL_refuses_997 (by decide) ?_
      refine z_goto B 1036 dL_refuses_998 (by decide) ?_
      refine z_istore (lv1 := [(9, .int (nI (1))), (0, .ref (a 0)), (1, .ref (nn)), (2, .int (nI (j))), (8, .int (nI (j % 8))), (10, .int (nI (i)))]) B dL_refuses_1036 (by decide) rfl ?_
      refine z_iinc B 5 (lv1 := [(10, .int (nI (i + 1))), (9, .int (nI (1))), (0, .ref (a 0)), (1, .ref (nn)), (2, .int (nI (j))), (8, .int (nI (j % 8)))]) dL_refuses_1038 rfl (nI_1 _) (by decide) rfl ?_
      refine z_goto B 932 dL_refuses_1041 (by decide) ?_
      refine z_loc [2, 3, 4, 5, 1, 0] (lv' := [(0, .ref (a 0)), (1, .ref (nn)), (2, .int (nI (j))), (8, .int (nI (j % 8))), (9, .int (nI (1))), (10, .int (nI (i + 1)))]) rfl ?_
      exact kk (k + 1) (n + 6) (by omega) (by omega)
    · refine z_aload_n B 0 dL_refuses_963 rfl rfl ?_
      refine z_iload B 5 dL_refuses_964 rfl ?_
      refine z_iload B 3 dL_refuses_966 rfl ?_
      refine z_iconst (v := nI 0) B dL_refuses_968 (by decide) ?_
      refine z_sipush (v := nI 401) B dL_refuses_969 (by decide) ?_
      refine z_iload_n B 2 dL_refuses_972 rfl rfl ?_
      refine z_iaddN B dL_refuses_973 ?_
      refine z_callW (As := [.ref (a 0), .int (nI (i)), .int (nI (j % 8)), .int (nI (0)), .int (nI (401 + j))]) (st := [])  B hLF hl (fo_holds l D g a C hst hI (nI (i)) (nI (j % 8)) (nI (0)) (nI (401 + j))) gL_refuses_L_holds rfl ⟨rfl, rfl⟩ nm_L_holds ⟨by decide, by decide⟩ rfl (Nat.le_of_ble_eq_true rfl) dL_refuses_974 (by omega) (by omega) (show k + 4 ≤ 278 by omega) (show n + 24 ≤ 2817 by omega) (fun r w1 hpq => ?_)
      obtain ⟨rfl, rfl⟩ := pPost_at (o_holds_2 hri hhere (fun z => absurd ((nI_leI (by omega) (by omega)).mp z.2.2) (by omega))) hpq
      refine z_ldc (v := (-2000000002)) B 2 rfl dL_refuses_977 ?_
      refine z_icmp_ne B 1001 dL_refuses_979 (by decide) (fun q => absurd rfl q) (fun _ => ?_)
      refine z_aload_n B 0 dL_refuses_982 rfl rfl ?_
      refine z_iload B 5 dL_refuses_983 rfl ?_
      refine z_iload B 3 dL_refuses_985 rfl ?_
      refine z_iconst (v := nI 5) B dL_refuses_987 (by decide) ?_
      refine z_iconst (v := nI 4) B dL_refuses_988 (by decide) ?_
      refine z_callW (As := [.ref (a 0), .int (nI (i)), .int (nI (j % 8)), .int (nI (5)), .int (nI (4))]) (st := [])  B hLF hl (fo_holds l D g a C hst hI (nI (i)) (nI (j % 8)) (nI (5)) (nI (4))) gL_refuses_L_holds rfl ⟨rfl, rfl⟩ nm_L_holds ⟨by decide, by decide⟩ rfl (Nat.le_of_ble_eq_true rfl) dL_refuses_989 (by omega) (by omega) (show k + 7 ≤ 278 by omega) (show n + 42 ≤ 2817 by omega) (fun r w1 hpq => ?_)
      obtain ⟨rfl, rfl⟩ := pPost_at (o_holds_2 hri hhere (fun z => absurd z.2.1 (by decide))) hpq
      refine z_ldc (v := (-2000000002)) B 2 rfl dL_refuses_992 ?_
      refine z_icmp_ne B 1001 dL_refuses_994 (by decide) (fun q => absurd rfl q) (fun _ => ?_)
      refine z_iconst (v := nI 1) B dL_refuses_997 (by decide) ?_
      refine z_goto B 1036 dL_refuses_998 (by decide) ?_
      refine z_istore (lv1 := [(9, .int (nI (1))), (0, .ref (a 0)), (1, .ref (nn)), (2, .int (nI (j))), (8, .int (nI (j % 8))), (10, .int (nI (i)))]) B dL_refuses_1036 (by decide) rfl ?_
      refine z_iinc B 5 (lv1 := [(10, .int (nI (i + 1))), (9, .int (nI (1))), (0, .ref (a 0)), (1, .ref (nn)), (2, .int (nI (j))), (8, .int (nI (j % 8)))]) dL_refuses_1038 rfl (nI_1 _) (by decide) rfl ?_
      refine z_goto B 932 dL_refuses_1041 (by decide) ?_
      refine z_loc [2, 3, 4, 5, 1, 0] (lv' := [(0, .ref (a 0)), (1, .ref (nn)), (2, .int (nI (j))), (8, .int (nI (j % 8))), (9, .int (nI (1))), (10, .int (nI (i + 1)))]) rfl ?_
      exact kk (k + 7) (n + 42) (by omega) (by omega)
set_option maxHeartbeats 4000000 in
set_option maxRecDepth 100000 in
theorem rf_l2 {X : zX} {l : Launch} {D : va_G} {g : zG} {A : Nat → Prop} {a : Nat → Nat} {C : zMS} {f : Nat → Int32} {nn : Nat} (Hb : rfB X l D g A a C f nn) (hV : KV C) (hf0 : f 0 = nI (cM C)) (hf1 : f 1 = nI (cK C)) (j : Nat) (hj : j < 9973) : ∀ (u i k n : Nat), i + u = cK C → k + (7 * u + 64) ≤ 278 → n + (42 * u + 384) ≤ 2817 → zJ X 12 (zI1 D A (zs X)) (rfQ X D g A a C f nn) ([(nn, .inl (g.1, 3, .inl f))] ++ wC g a C (4 * cM C)) k n [(0, .ref (a 0)), (1, .ref (nn)), (2, .int (nI (j))), (8, .int (nI (j % 8))), (9, .int (nI (1))), (10, .int (nI (i)))] 932 [] := by
  intro u
  induction u with
  | zero =>
    intro i k n hlp hk hn
    exact rf_l2o Hb hV hf0 hf1 j hj i (by omega) k n (by omega) (by omega)
  | succ u ih =>
    intro i k n hlp hk hn
    exact rf_l2i Hb hV hf0 hf1 j hj i (by omega) k n (k + 7) (n + 42) (by omega) (by omega) (Nat.le_refl _) (Nat.le_refl _) (fun k2 n2 h1 h2 => ih (i + 1) k2 n2 (by omega) (by omega) (by omega))

set_option maxHeartbeats 4000000 in
set_option maxRecDepth 100000 in
theorem rf_929 {X : zX} {l : Launch} {D : va_G} {g : zG} {A : Nat → Prop} {a : Nat → Nat} {C : zMS} {f : Nat → Int32} {nn : Nat} (Hb : rfB X l D g A a C f nn) (hV : KV C) (hf0 : f 0 = nI (cM C)) (hf1 : f 1 = nI (cK C)) (j : Nat) (hj : j < 9973) (k n : Nat) (hk : k + 120 ≤ 278) (hn : n + 720 ≤ 2817) : zJ X 12 (zI1 D A (zs X)) (rfQ X D g A a C f nn) ([(nn, .inl (g.1, 3, .inl f))] ++ wC g a C (4 * cM C)) k n [(0, .ref (a 0)), (1, .ref (nn)), (2, .int (nI (j))), (8, .int (nI (j % 8))), (9, .int (nI (1)))] 929 [] := by
  obtain ⟨hAe, hl, B, hr, hLF, hst⟩ := id Hb
  have hI := KV_I hV
  have hJ := KV_J hV
  have bP := CI_b19 hI
  have bM := CI_b20 hI
  have bK := CI_b22 hI
  have bT := CI_b0 hI
  refine z_iconst (v := nI 0) B dL_refuses_929 (by decide) ?_
  refine z_istore (lv1 := [(10, .int (nI (0))), (0, .ref (a 0)), (1, .ref (nn)), (2, .int (nI (j))), (8, .int (nI (j % 8))), (9, .int (nI (1)))]) B dL_refuses_930 (by decide) rfl ?_
  refine z_loc [1, 2, 3, 4, 5, 0] (lv' := [(0, .ref (a 0)), (1, .ref (nn)), (2, .int (nI (j))), (8, .int (nI (j % 8))), (9, .int (nI (1))), (10, .int (nI (0)))]) rfl ?_
  exact rf_l2 Hb hV hf0 hf1 j hj (cK C) 0 (k) (n) (by omega) (by omega) (by omega)
