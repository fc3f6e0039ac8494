/-! the law's ends -/
def enPost (g : zG) (a : Nat → Nat) (f : Nat → Int32) (nn m0 : Nat) : Int32 → va_W → Prop := fun r w' => r = nI 1 ∧ ∃ C' : zMS, KV C' ∧ cM C' = m0 ∧ w' = [(nn, .inl (g.1, 3, .inl f))] ++ wC g a C' (4 * cM C')
def enB (X : zX) (l : Launch) (D : va_G) (g : zG) (A : Nat → Prop) (w0 : va_W) : Prop := A = va_A w0 (zs X).heap.size ∧ zl X = l ∧ zB X RL cL_ends 6 wsL_ends { frames := 9, cells := 272, slots := 1632, locals := 183 } D (zT g) (zI1 D A (zs X)) ∧ (zmeth X).sig.returnType = some .boolean ∧ zLF A (zs X) (zs X).heap ∧ l.stackTraces = false
abbrev enQ (X : zX) (D : va_G) (g : zG) (A : Nat → Prop) (w0 : va_W) (a : Nat → Nat) (f : Nat → Int32) (nn m0 : Nat) : State → Prop := zQe X (va_Qi (enPost g a f nn m0) (zEnd D (zT g) w0 (zs X).heap.size) A) 272 1632 A
set_option maxHeartbeats 4000000 in
set_option maxRecDepth 100000 in
theorem en_3o {X : zX} {l : Launch} {D : va_G} {g : zG} {A : Nat → Prop} {w0 : va_W} {m0 : Nat} {a : Nat → Nat} {f : Nat → Int32} {nn : Nat} (Hb : enB X l D g A w0) (hf0 : f 0 = nI m0) {C : zMS} (hV : KV C) (hm : cM C = m0) (hE : E1 C (cM C)) (i : Nat) (hi : i = cP C) (k n : Nat) (hk : k + 0 ≤ 272) (hn : n + 0 ≤ 1632) : zJ X 6 (zI1 D A (zs X)) (enQ X D g A w0 a f nn m0) ([(nn, .inl (g.1, 3, .inl f))] ++ wC g a C (4 * cM C)) k n [(0, .ref (a 0)), (1, .ref (nn)), (2, .int (nI (1))), (4, .int (nI (i)))] 149 [] := by
  obtain ⟨hAe, hl, B, hr, hLF, hst⟩ := id Hb
  have hI := KV_I hV
  have hJ := KV_J hV
  have bP := CI_b19 hI
  have bM := CI_b20 hI
  refine z_iload B 3 dL_ends_149 rfl ?_
  refine z_aload_n B 0 dL_ends_151 rfl rfl ?_
  refine z_callP (As := []) (st := [.int (nI (i))]) (C := RX6) (T := TX6) (N := 6) (ci := 6) (l := l) B hl (cc_X6_pages l D g a C (4 * cM C) hI) gL_ends_X6_pages rfl ⟨rfl, rfl⟩ nm_X6_pages ⟨by decide, by decide⟩ (fun _ h => sub_r h) 0 rfl rfl rfl (Nat.le_of_ble_eq_true rfl) dL_ends_152 (show k ≤ 272 by omega) (show n ≤ 1632 by omega) (fun r hr1 => ?_)
  obtain rfl := hr1
  refine z_icmpN_ge B 193 dL_ends_155 (by decide) (by omega) (by omega) (fun _ => ?_) (fun q => absurd q (by omega))
  refine z_iload_n B 2 dL_ends_193 rfl rfl ?_
  exact z_mret B hAe hr dL_ends_194 rfl (by omega) (by omega) (⟨rfl, C, hV, hm, rfl⟩)
set_option maxHeartbeats 4000000 in
set_option maxRecDepth 100000 in
theorem en_3i {X : zX} {l : Launch} {D : va_G} {g : zG} {A : Nat → Prop} {w0 : va_W} {m0 : Nat} {a : Nat → Nat} {f : Nat → Int32} {nn : Nat} (Hb : enB X l D g A w0) (hf0 : f 0 = nI m0) {C : zMS} (hV : KV C) (hm : cM C = m0) (hE : E1 C (cM C)) (i : Nat) (hi : i < cP C) (k n KB NB : Nat) (hKB : KB ≤ 272) (hNB : NB ≤ 1632) (hk : k + 2 ≤ KB) (hn : n + 12 ≤ NB) (kk : ∀ (k2 n2 : Nat), k2 ≤ KB → n2 ≤ NB → zJ X 6 (zI1 D A (zs X)) (enQ X D g A w0 a f nn m0) ([(nn, .inl (g.1, 3, .inl f))] ++ wC g a C (4 * cM C)) k2 n2 [(0, .ref (a 0)), (1, .ref (nn)), (2, .int (nI (1))), (4, .int (nI (i + 1)))] 149 []) : zJ X 6 (zI1 D A (zs X)) (enQ X D g A w0 a f nn m0) ([(nn, .inl (g.1, 3, .inl f))] ++ wC g a C (4 * cM C)) k n [(0, .ref (a 0)), (1, .ref (nn)), (2, .int (nI (1))), (4, .int (nI (i)))] 149 [] := by
  obtain ⟨hAe, hl, B, hr, hLF, hst⟩ := id Hb
  have hI := KV_I hV
  have hJ := KV_J hV
  have bP := CI_b19 hI
  have bM := CI_b20 hI
  have ei : nN (nI i) = i := nN_nI (by omega)
  refine z_iload B 3 dL_ends_149 rfl ?_
  refine z_aload_n B 0 dL_ends_151 rfl rfl ?_
  refine z_callP (As := []) (st := [.int (nI (i))]) (C := RX6) (T := TX6) (N := 6) (ci := 6) (l := l) B hl (cc_X6_pages l D g a C (4 * cM C) hI) gL_ends_X6_pages rfl ⟨rfl, rfl⟩ nm_X6_pages ⟨by decide, by decide⟩ (fun _ h => sub_r h) 0 rfl rfl rfl (Nat.le_of_ble_eq_true rfl) dL_ends_152 (show k ≤ 272 by omega) (show n ≤ 1632 by omega) (fun r hr1 => ?_)
  obtain rfl := hr1
  refine z_icmpN_ge B 193 dL_ends_155 (by decide) (by omega) (by omega) (fun q => absurd q (by omega)) (fun _ => ?_)
  refine z_iload_n B 2 dL_ends_158 rfl rfl ?_
  refine z_if_eq B 193 dL_ends_159 (by decide) (fun h => absurd h (by decide)) (fun _ => ?_)
  refine z_aload_n B 0 dL_ends_162 rfl rfl ?_
  refine z_iload B 3 dL_ends_163 rfl ?_
  refine z_callW (As := [.ref (a 0), .int (nI (i))]) (st := [])  B hLF hl (fo_state l D g a C hst hI (nI (i))) gL_ends_L_state rfl ⟨rfl, rfl⟩ nm_L_state ⟨by decide, by decide⟩ rfl (Nat.le_of_ble_eq_true rfl) dL_ends_165 (by omega) (by omega) (show k + 1 ≤ 272 by omega) (show n + 6 ≤ 1632 by omega) (fun r w1 hpq => ?_)
  obtain ⟨rfl, rfl⟩ := rPost_at (show s_state C (nI (i)) = nI (cSt C i) from (s_state_ok (rn_in hi)).trans (by rw [ei])) hpq
  have hs3 := St_lt (C := C) (p := i)
  refine z_iconst (v := nI 2) B dL_ends_168 (by decide) ?_
  refine z_icmpN_ne B 181 dL_ends_169 (by decide) (by omega) (by omega) (fun c169 => ?_) (fun c169 => ?_)
  · refine z_iconst (v := nI 1) B dL_ends_181 (by decide) ?_
    refine z_goto B 186 dL_ends_182 (by decide) ?_
    refine z_istore_n (lv1 := [(2, .int (nI (1))), (0, .ref (a 0)), (1, .ref (nn)), (4, .int (nI (i)))]) B dL_ends_186 rfl (by decide) rfl ?_
    refine z_iinc B 3 (lv1 := [(4, .int (nI (i + 1))), (2, .int (nI (1))), (0, .ref (a 0)), (1, .ref (nn))]) dL_ends_187 rfl (nI_1 _) (by decide) rfl ?_
    refine z_goto B 149 dL_ends_190 (by decide) ?_
    refine z_loc [2, 3, 1, 0] (lv' := [(0, .ref (a 0)), (1, .ref (nn)), (2, .int (nI (1))), (4, .int (nI (i + 1)))]) rfl ?_
    exact kk (k + 1) (n + 6) (by omega) (by omega)
  · refine z_aload_n B 0 dL_ends_172 rfl rfl ?_
    refine z_iload B 3 dL_ends_173 rfl ?_
    refine z_callW (As := [.ref (a 0), .int (nI (i))]) (st := [])  B hLF hl (fo_copiesOf l D g a C hst hI (nI (i))) gL_ends_L_copiesOf rfl ⟨rfl, rfl⟩ nm_L_copiesOf ⟨by decide, by decide⟩ rfl (Nat.le_of_ble_eq_true rfl) dL_ends_175 (by omega) (by omega) (show k + 2 ≤ 272 by omega) (show n + 12 ≤ 1632 by omega) (fun r w1 hpq => ?_)
    obtain ⟨rfl, rfl⟩ := rPost_at (show s_copiesOf C (nI (i)) = nI (0) from (s_copiesOf_ok (rn_in hi)).trans (by rw [ei, en_cf hV hE (by omega) c169])) hpq
    refine z_if_ne B 185 dL_ends_178 (by decide) (fun h => absurd h (by decide)) (fun _ => ?_)
    refine z_iconst (v := nI 1) B dL_ends_181 (by decide) ?_
    refine z_goto B 186 dL_ends_182 (by decide) ?_
    refine z_istore_n (lv1 := [(2, .int (nI (1))), (0, .ref (a 0)), (1, .ref (nn)), (4, .int (nI (i)))]) B dL_ends_186 rfl (by decide) rfl ?_
    refine z_iinc B 3 (lv1 := [(4, .int (nI (i + 1))), (2, .int (nI (1))), (0, .ref (a 0)), (1, .ref (nn))]) dL_ends_187 rfl (nI_1 _) (by decide) rfl ?_
    refine z_goto B 149 dL_ends_190 (by decide) ?_
    refine z_loc [2, 3, 1, 0] (lv' := [(0, .ref (a 0)), (1, .ref (nn)), (2, .int (nI (1))), (4, .int (nI (i + 1)))]) rfl ?_
    exact kk (k + 2) (n + 12) (by omega) (by omega)
set_option maxHeartbeats 4000000 in
set_option maxRecDepth 100000 in
theorem en_3 {X : zX} {l : Launch} {D : va_G} {g : zG} {A : Nat → Prop} {w0 : va_W} {m0 : Nat} {a : Nat → Nat} {f : Nat → Int32} {nn : Nat} (Hb : enB X l D g A w0) (hf0 : f 0 = nI m0) {C : zMS} (hV : KV C) (hm : cM C = m0) (hE : E1 C (cM C)) : ∀ (u i k n : Nat), i + u = cP C → k + (2 * u + 0) ≤ 272 → n + (12 * u + 0) ≤ 1632 → zJ X 6 (zI1 D A (zs X)) (enQ X D g A w0 a f nn m0) ([(nn, .inl (g.1, 3, .inl f))] ++ wC g a C (4 * cM C)) k n [(0, .ref (a 0)), (1, .ref (nn)), (2, .int (nI (1))), (4, .int (nI (i)))] 149 [] := by
  intro u
  induction u with
  | zero =>
    intro i k n hlp hk hn
    exact en_3o Hb hf0 hV hm hE i (by omega) k n (by omega) (by omega)
  | succ u ih =>
    intro i k n hlp hk hn
    exact en_3i Hb hf0 hV hm hE i (by omega) k n (k + 2) (n + 12) (by omega) (by omega) (Nat.le_refl _) (Nat.le_refl _) (fun k2 n2 h1 h2 => ih (i + 1) k2 n2 (by omega) (by omega) (by omega))

set_option maxHeartbeats 4000000 in
set_option maxRecDepth 100000 in
theorem en_2o {X : zX} {l : Launch} {D : va_G} {g : zG} {A : Nat → Prop} {w0 : va_W} {m0 : Nat} {a : Nat → Nat} {f : Nat → Int32} {nn : Nat} (Hb : enB X l D g A w0) (hf0 : f 0 = nI m0) {C1 C : zMS} (hV : KV C) (hm : cM C = m0) (hE1 : E1 C1 m0) (i : Nat) (hi : i = m0) (hEn : En C1 C i) (k n : Nat) (hk : k + 160 ≤ 272) (hn : n + 960 ≤ 1632) : zJ X 6 (zI1 D A (zs X)) (enQ X D g A w0 a f nn m0) ([(nn, .inl (g.1, 3, .inl f))] ++ wC g a C (4 * cM C)) k n [(0, .ref (a 0)), (1, .ref (nn)), (2, .int (nI (1))), (3, .int (nI (loN C1))), (4, .int (nI (i)))] 63 [] := by
  obtain ⟨hAe, hl, B, hr, hLF, hst⟩ := id Hb
  have hI := KV_I hV
  have hJ := KV_J hV
  have bP := CI_b19 hI
  have bM := CI_b20 hI
  have eM : cM C1 = cM C := by unfold cM; rw [hEn.1 20 (by omega) (by omega)]
  have hEn2 : En C1 C (cM C1) := by rw [eM, hm, ← hi]; exact hEn
  have hg := En_gaps hEn2
  have hl2 := En_lost hEn2
  have hz := zcnt_le (fun p => cSt C p = 1) (cP C)
  have hE : E1 C (cM C) := E1_s hEn2.1 (by rw [hm]; exact hE1)
  refine z_iload B 4 dL_ends_63 rfl ?_
  refine z_aload_n B 1 dL_ends_65 rfl rfl ?_
  refine z_iconst (v := nI 0) B dL_ends_66 (by decide) ?_
  refine z_iald (g := f) (i := 0) B 0 0 rfl rfl (by omega) (by decide) dL_ends_67 ?_
  refine z_top (y := nI (m0)) hf0 ?_
  refine z_icmpN_ge B 120 dL_ends_68 (by decide) (by omega) (by omega) (fun _ => ?_) (fun q => absurd q (by omega))
  refine z_iload_n B 2 dL_ends_120 rfl rfl ?_
  refine z_if_eq B 144 dL_ends_121 (by decide) (fun h => absurd h (by decide)) (fun _ => ?_)
  refine z_aload_n B 0 dL_ends_124 rfl rfl ?_
  refine z_callP (As := []) (st := []) (C := RX6) (T := TX6) (N := 6) (ci := 6) (l := l) B hl (cc_X6_gaps l D g a C (4 * cM C) hI) gL_ends_X6_gaps rfl ⟨rfl, rfl⟩ nm_X6_gaps ⟨by decide, by decide⟩ (fun _ h => sub_r h) 0 rfl rfl rfl (Nat.le_of_ble_eq_true rfl) dL_ends_125 (show k ≤ 272 by omega) (show n ≤ 1632 by omega) (fun r hr1 => ?_)
  obtain rfl := hr1
  refine z_iload_n B 3 dL_ends_128 rfl rfl ?_
  refine z_icmpN_ne B 144 dL_ends_129 (by decide) (by omega) (by omega) (fun q => absurd q (by omega)) (fun _ => ?_)
  refine z_aload_n B 0 dL_ends_132 rfl rfl ?_
  refine z_callP (As := []) (st := []) (C := RX6) (T := TX6) (N := 6) (ci := 6) (l := l) B hl (cc_X6_lost l D g a C (4 * cM C) hI (Nat.le_refl _)) gL_ends_X6_lost rfl ⟨rfl, rfl⟩ nm_X6_lost ⟨by decide, by decide⟩ (fun _ h => sub_r h) 0 rfl rfl rfl (Nat.le_of_ble_eq_true rfl) dL_ends_133 (show k ≤ 272 by omega) (show n ≤ 1632 by omega) (fun r hr1 => ?_)
  obtain rfl := hr1
  refine z_iload_n B 3 dL_ends_136 rfl rfl ?_
  refine z_icmpN_ne B 144 dL_ends_137 (by decide) (by omega) (by omega) (fun q => absurd q (by omega)) (fun _ => ?_)
  refine z_iconst (v := nI 1) B dL_ends_140 (by decide) ?_
  refine z_goto B 145 dL_ends_141 (by decide) ?_
  refine z_istore_n (lv1 := [(2, .int (nI (1))), (0, .ref (a 0)), (1, .ref (nn)), (3, .int (nI (loN C1))), (4, .int (nI (i)))]) B dL_ends_145 rfl (by decide) rfl ?_
  refine z_iconst (v := nI 0) B dL_ends_146 (by decide) ?_
  refine z_istore (lv1 := [(4, .int (nI (0))), (2, .int (nI (1))), (0, .ref (a 0)), (1, .ref (nn)), (3, .int (nI (loN C1)))]) B dL_ends_147 (by decide) rfl ?_
  refine z_loc [2, 3, 1, 0] (lv' := [(0, .ref (a 0)), (1, .ref (nn)), (2, .int (nI (1))), (4, .int (nI (0)))]) rfl ?_
  exact en_3 Hb hf0 hV hm hE (cP C) 0 (k) (n) (by omega) (by omega) (by omega)
set_option maxHeartbeats 4000000 in
set_option maxRecDepth 100000 in
theorem en_2a {X : zX} {l : Launch} {D : va_G} {g : zG} {A : Nat → Prop} {w0 : va_W} {m0 : Nat} {a : Nat → Nat} {f : Nat → Int32} {nn : Nat} (Hb : enB X l D g A w0) (hf0 : f 0 = nI m0) {C1 C : zMS} (hV : KV C) (hm : cM C = m0) (hE1 : E1 C1 m0) (i : Nat) (hi : i < m0) (hEn : En C1 C i) (hno : ¬ cCx C (nI i)) (k n KB NB : Nat) (hKB : KB ≤ 272) (hNB : NB ≤ 1632) (hk : k + 3 ≤ KB) (hn : n + 18 ≤ NB) (kk : ∀ (C2 : zMS) (k2 n2 : Nat), k2 ≤ KB → n2 ≤ NB → KV C2 → cM C2 = m0 → En C1 C2 (i + 1) → zJ X 6 (zI1 D A (zs X)) (enQ X D g A w0 a f nn m0) ([(nn, .inl (g.1, 3, .inl f))] ++ wC g a C2 (4 * cM C2)) k2 n2 [(0, .ref (a 0)), (1, .ref (nn)), (2, .int (nI (1))), (3, .int (nI (loN C1))), (4, .int (nI (i + 1)))] 63 []) : zJ X 6 (zI1 D A (zs X)) (enQ X D g A w0 a f nn m0) ([(nn, .inl (g.1, 3, .inl f))] ++ wC g a C (4 * cM C)) k n [(0, .ref (a 0)), (1, .ref (nn)), (2, .int (nI (1))), (3, .int (nI (loN C1))), (4, .int (nI (i)))] 63 [] := by
  obtain ⟨hAe, hl, B, hr, hLF, hst⟩ := id Hb
  have hI := KV_I hV
  have hJ := KV_J hV
  have bP := CI_b19 hI
  have bM := CI_b20 hI
  refine z_iload B 4 dL_ends_63 rfl ?_
  refine z_aload_n B 1 dL_ends_65 rfl rfl ?_
  refine z_iconst (v := nI 0) B dL_ends_66 (by decide) ?_
  refine z_iald (g := f) (i := 0) B 0 0 rfl rfl (by omega) (by decide) dL_ends_67 ?_
  refine z_top (y := nI (m0)) hf0 ?_
  refine z_icmpN_ge B 120 dL_ends_68 (by decide) (by omega) (by omega) (fun q => absurd q (by omega)) (fun _ => ?_)
  refine z_iload_n B 2 dL_ends_71 rfl rfl ?_
  refine z_if_eq B 120 dL_ends_72 (by decide) (fun h => absurd h (by decide)) (fun _ => ?_)
  refine z_aload_n B 0 dL_ends_75 rfl rfl ?_
  refine z_iload B 4 dL_ends_76 rfl ?_
  refine z_callW (As := [.ref (a 0), .int (nI (i))]) (st := [])  B hLF hl (fo_restores l D g a C hst hI hJ (nI (i))) gL_ends_L_restores rfl ⟨rfl, rfl⟩ nm_L_restores ⟨by decide, by decide⟩ rfl (Nat.le_of_ble_eq_true rfl) dL_ends_78 (by omega) (by omega) (show k + 2 ≤ 272 by omega) (show n + 12 ≤ 1632 by omega) (fun r w1 hpq => ?_)
  obtain ⟨rfl, rfl⟩ := pPost_at (o_restores_0 hno) hpq
  refine z_istore (lv1 := [(5, .int ((-2000000001))), (0, .ref (a 0)), (1, .ref (nn)), (2, .int (nI (1))), (3, .int (nI (loN C1))), (4, .int (nI (i)))]) B dL_ends_81 (by decide) rfl ?_
  refine z_iload B 0 dL_ends_83 rfl ?_
  refine z_if_lt B 97 dL_ends_85 (by decide) (fun _ => ?_) (fun q => absurd negB q)
  refine z_aload_n B 1 dL_ends_97 rfl rfl ?_
  refine z_iload B 5 dL_ends_98 rfl ?_
  refine z_callW (As := [.ref (a 0), .int (nI (i))]) (st := [])  B hLF hl (fo_size l D g a C hst hI hJ (nI (i))) gL_ends_L_size rfl ⟨rfl, rfl⟩ nm_L_size ⟨by decide, by decide⟩ rfl (Nat.le_of_ble_eq_true rfl) dL_ends_100 (by omega) (by omega) (show k + 3 ≤ 272 by omega) (show n + 18 ≤ 1632 by omega) (fun r w1 hpq => ?_)
  obtain ⟨rfl, rfl⟩ := rPost_at (show s_size C (nI (i)) = (-2000000001) from s_size_0 hno) hpq
  refine z_ldc (v := (-2000000001)) B 1 rfl dL_ends_103 ?_
  refine z_icmp_ne B 112 dL_ends_105 (by decide) (fun q => absurd rfl q) (fun _ => ?_)
  refine z_iconst (v := nI 1) B dL_ends_108 (by decide) ?_
  refine z_goto B 113 dL_ends_109 (by decide) ?_
  refine z_istore_n (lv1 := [(2, .int (nI (1))), (5, .int ((-2000000001))), (0, .ref (a 0)), (1, .ref (nn)), (3, .int (nI (loN C1))), (4, .int (nI (i)))]) B dL_ends_113 rfl (by decide) rfl ?_
  refine z_iinc B 5 (lv1 := [(4, .int (nI (i + 1))), (2, .int (nI (1))), (5, .int ((-2000000001))), (0, .ref (a 0)), (1, .ref (nn)), (3, .int (nI (loN C1)))]) dL_ends_114 rfl (nI_1 _) (by decide) rfl ?_
  refine z_goto B 63 dL_ends_117 (by decide) ?_
  refine z_loc [3, 4, 1, 5, 0] (lv' := [(0, .ref (a 0)), (1, .ref (nn)), (2, .int (nI (1))), (3, .int (nI (loN C1))), (4, .int (nI (i + 1)))]) rfl ?_
  exact kk C (k + 3) (n + 18) (by omega) (by omega) hV hm (En_n (by omega) hno hEn)
set_option maxHeartbeats 4000000 in
set_option maxRecDepth 100000 in
theorem en_2p {X : zX} {l : Launch} {D : va_G} {g : zG} {A : Nat → Prop} {w0 : va_W} {m0 : Nat} {a : Nat → Nat} {f : Nat → Int32} {nn : Nat} (Hb : enB X l D g A w0) (hf0 : f 0 = nI m0) {C1 C : zMS} (hV : KV C) (hm : cM C = m0) (hE1 : E1 C1 m0) (i : Nat) (hi : i < m0) (hEn : En C1 C i) (hx : cCx C (nI i)) (k n KB NB : Nat) (hKB : KB ≤ 272) (hNB : NB ≤ 1632) (hk : k + 4 ≤ KB) (hn : n + 24 ≤ NB) (kk : ∀ (C2 : zMS) (k2 n2 : Nat), k2 ≤ KB → n2 ≤ NB → KV C2 → cM C2 = m0 → En C1 C2 (i + 1) → zJ X 6 (zI1 D A (zs X)) (enQ X D g A w0 a f nn m0) ([(nn, .inl (g.1, 3, .inl f))] ++ wC g a C2 (4 * cM C2)) k2 n2 [(0, .ref (a 0)), (1, .ref (nn)), (2, .int (nI (1))), (3, .int (nI (loN C1))), (4, .int (nI (i + 1)))] 63 []) : zJ X 6 (zI1 D A (zs X)) (enQ X D g A w0 a f nn m0) ([(nn, .inl (g.1, 3, .inl f))] ++ wC g a C (4 * cM C)) k n [(0, .ref (a 0)), (1, .ref (nn)), (2, .int (nI (1))), (3, .int (nI (loN C1))), (4, .int (nI (i)))] 63 [] := by
  obtain ⟨hAe, hl, B, hr, hLF, hst⟩ := id Hb
  have hI := KV_I hV
  have hJ := KV_J hV
  have bP := CI_b19 hI
  have bM := CI_b20 hI
  obtain ⟨i2, e2, hi2, h28⟩ := id hx
  obtain rfl := (nI_eq (by omega) (by omega)).mp e2
  have hw : cWh C i := en_Wh hV hi2 h28 (fun d hd h => E1_s hEn.1 hE1 d (by omega) h)
  have hb := rs_le hI (i := i) (by omega)
  have hV2 : KV (rstC C i) := K_restores hV hi2 h28
  have hI2 := KV_I hV2
  have hJ2 := KV_J hV2
  refine z_iload B 4 dL_ends_63 rfl ?_
  refine z_aload_n B 1 dL_ends_65 rfl rfl ?_
  refine z_iconst (v := nI 0) B dL_ends_66 (by decide) ?_
  refine z_iald (g := f) (i := 0) B 0 0 rfl rfl (by omega) (by decide) dL_ends_67 ?_
  refine z_top (y := nI (m0)) hf0 ?_
  refine z_icmpN_ge B 120 dL_ends_68 (by decide) (by omega) (by omega) (fun q => absurd q (by omega)) (fun _ => ?_)
  refine z_iload_n B 2 dL_ends_71 rfl rfl ?_
  refine z_if_eq B 120 dL_ends_72 (by decide) (fun h => absurd h (by decide)) (fun _ => ?_)
  refine z_aload_n B 0 dL_ends_75 rfl rfl ?_
  refine z_iload B 4 dL_ends_76 rfl ?_
  refine z_callW (As := [.ref (a 0), .int (nI (i))]) (st := [])  B hLF hl (fo_restores l D g a C hst hI hJ (nI (i))) gL_ends_L_restores rfl ⟨rfl, rfl⟩ nm_L_restores ⟨by decide, by decide⟩ rfl (Nat.le_of_ble_eq_true rfl) dL_ends_78 (by omega) (by omega) (show k + 2 ≤ 272 by omega) (show n + 12 ≤ 1632 by omega) (fun r w1 hpq => ?_)
  obtain ⟨rfl, rfl⟩ := pPost_at (en_r1 (by omega) hx hw) hpq
  refine z_istore (lv1 := [(5, .int (nI (gbB (chN (cBs C) i) C))), (0, .ref (a 0)), (1, .ref (nn)), (2, .int (nI (1))), (3, .int (nI (loN C1))), (4, .int (nI (i)))]) B dL_ends_81 (by decide) rfl ?_
  refine z_iload B 0 dL_ends_83 rfl ?_
  refine z_if_lt B 97 dL_ends_85 (by decide) (fun h => absurd h (nI_pos (by omega))) (fun _ => ?_)
  refine z_aload_n B 1 dL_ends_88 rfl rfl ?_
  refine z_iload B 5 dL_ends_89 rfl ?_
  refine z_callW (As := [.ref (a 0), .int (nI (i))]) (st := [])  B hLF hl (fo_restores l D g a (rstC C i) hst hI2 hJ2 (nI (i))) gL_ends_L_restores rfl ⟨rfl, rfl⟩ nm_L_restores ⟨by decide, by decide⟩ rfl (Nat.le_of_ble_eq_true rfl) dL_ends_91 (by omega) (by omega) (show k + 4 ≤ 272 by omega) (show n + 24 ≤ 1632 by omega) (fun r w1 hpq => ?_)
  obtain ⟨rfl, rfl⟩ := pPost_at (en_r2 (by omega) hx hw) hpq
  refine z_if_eq B 108 dL_ends_94 (by decide) (fun _ => ?_) (fun h => absurd h (by decide))
  refine z_iconst (v := nI 1) B dL_ends_108 (by decide) ?_
  refine z_goto B 113 dL_ends_109 (by decide) ?_
  refine z_istore_n (lv1 := [(2, .int (nI (1))), (5, .int (nI (gbB (chN (cBs C) i) C))), (0, .ref (a 0)), (1, .ref (nn)), (3, .int (nI (loN C1))), (4, .int (nI (i)))]) B dL_ends_113 rfl (by decide) rfl ?_
  refine z_iinc B 5 (lv1 := [(4, .int (nI (i + 1))), (2, .int (nI (1))), (5, .int (nI (gbB (chN (cBs C) i) C))), (0, .ref (a 0)), (1, .ref (nn)), (3, .int (nI (loN C1)))]) dL_ends_114 rfl (nI_1 _) (by decide) rfl ?_
  refine z_goto B 63 dL_ends_117 (by decide) ?_
  refine z_loc [3, 4, 1, 5, 0] (lv' := [(0, .ref (a 0)), (1, .ref (nn)), (2, .int (nI (1))), (3, .int (nI (loN C1))), (4, .int (nI (i + 1)))]) rfl ?_
  exact kk (rstC C i) (k + 4) (n + 24) (by omega) (by omega) hV2 (rstC_M.trans hm) (En_s hV hi2 h28 hEn)
set_option maxHeartbeats 4000000 in
set_option maxRecDepth 100000 in
theorem en_2 {X : zX} {l : Launch} {D : va_G} {g : zG} {A : Nat → Prop} {w0 : va_W} {m0 : Nat} {a : Nat → Nat} {f : Nat → Int32} {nn : Nat} (Hb : enB X l D g A w0) (hf0 : f 0 = nI m0) {C1 : zMS} (hE1 : E1 C1 m0) : ∀ (u i k n : Nat) (C : zMS), i + u = m0 → k + (4 * u + 160) ≤ 272 → n + (24 * u + 960) ≤ 1632 → KV C → cM C = m0 → En C1 C i → zJ X 6 (zI1 D A (zs X)) (enQ X D g A w0 a f nn m0) ([(nn, .inl (g.1, 3, .inl f))] ++ wC g a C (4 * cM C)) k n [(0, .ref (a 0)), (1, .ref (nn)), (2, .int (nI (1))), (3, .int (nI (loN C1))), (4, .int (nI (i)))] 63 [] := by
  intro u
  induction u with
  | zero =>
    intro i k n C hlp hk hn hV hm hEn
    exact en_2o Hb hf0 hV hm hE1 i (by omega) hEn k n (by omega) (by omega)
  | succ u ih =>
    intro i k n C hlp hk hn hV hm hEn
    by_cases hx : cCx C (nI i)
    · exact en_2p Hb hf0 hV hm hE1 i (by omega) hEn hx k n (k + 4) (n + 24) (by omega) (by omega) (by omega) (by omega) (fun C2 k2 n2 h1 h2 a1 a2 a3 => ih (i + 1) k2 n2 C2 (by omega) (by omega) (by omega) a1 a2 a3)
    · exact en_2a Hb hf0 hV hm hE1 i (by omega) hEn hx k n (k + 4) (n + 24) (by omega) (by omega) (by omega) (by omega) (fun C2 k2 n2 h1 h2 a1 a2 a3 => ih (i + 1) k2 n2 C2 (by omega) (by omega) (by omega) a1 a2 a3)

set_option maxHeartbeats 4000000 in
set_option maxRecDepth 100000 in
theorem en_1o {X : zX} {l : Launch} {D : va_G} {g : zG} {A : Nat → Prop} {w0 : va_W} {m0 : Nat} {a : Nat → Nat} {f : Nat → Int32} {nn : Nat} (Hb : enB X l D g A w0) (hf0 : f 0 = nI m0) {C : zMS} (hV : KV C) (hm : cM C = m0) (i : Nat) (hi : i = m0) (hE0 : E1 C i) (k n : Nat) (hk : k + 224 ≤ 272) (hn : n + 1344 ≤ 1632) : zJ X 6 (zI1 D A (zs X)) (enQ X D g A w0 a f nn m0) ([(nn, .inl (g.1, 3, .inl f))] ++ wC g a C (4 * cM C)) k n [(0, .ref (a 0)), (1, .ref (nn)), (2, .int (nI (1))), (3, .int (nI (i)))] 4 [] := by
  obtain ⟨hAe, hl, B, hr, hLF, hst⟩ := id Hb
  have hI := KV_I hV
  have hJ := KV_J hV
  have bP := CI_b19 hI
  have bM := CI_b20 hI
  have hE : E1 C m0 := by rw [← hi]; exact hE0
  refine z_iload_n B 3 dL_ends_4 rfl rfl ?_
  refine z_aload_n B 1 dL_ends_5 rfl rfl ?_
  refine z_iconst (v := nI 0) B dL_ends_6 (by decide) ?_
  refine z_iald (g := f) (i := 0) B 0 0 rfl rfl (by omega) (by decide) dL_ends_7 ?_
  refine z_top (y := nI (m0)) hf0 ?_
  refine z_icmpN_ge B 55 dL_ends_8 (by decide) (by omega) (by omega) (fun _ => ?_) (fun q => absurd q (by omega))
  refine z_aload_n B 0 dL_ends_55 rfl rfl ?_
  refine z_callP (As := []) (st := []) (C := RX6) (T := TX6) (N := 6) (ci := 6) (l := l) B hl (cc_X6_lost l D g a C (4 * cM C) hI (Nat.le_refl _)) gL_ends_X6_lost rfl ⟨rfl, rfl⟩ nm_X6_lost ⟨by decide, by decide⟩ (fun _ h => sub_r h) 0 rfl rfl rfl (Nat.le_of_ble_eq_true rfl) dL_ends_56 (show k ≤ 272 by omega) (show n ≤ 1632 by omega) (fun r hr1 => ?_)
  obtain rfl := hr1
  refine z_istore_n (lv1 := [(3, .int (nI (zcnt (fun p => cSt C p = 1 ∧ ¬ cHT C p (nI 1)) (cP C)))), (0, .ref (a 0)), (1, .ref (nn)), (2, .int (nI (1)))]) B dL_ends_59 rfl (by decide) rfl ?_
  refine z_iconst (v := nI 0) B dL_ends_60 (by decide) ?_
  refine z_istore (lv1 := [(4, .int (nI (0))), (3, .int (nI (zcnt (fun p => cSt C p = 1 ∧ ¬ cHT C p (nI 1)) (cP C)))), (0, .ref (a 0)), (1, .ref (nn)), (2, .int (nI (1)))]) B dL_ends_61 (by decide) rfl ?_
  refine z_loc [2, 3, 4, 1, 0] (lv' := [(0, .ref (a 0)), (1, .ref (nn)), (2, .int (nI (1))), (3, .int (nI (zcnt (fun p => cSt C p = 1 ∧ ¬ cHT C p (nI 1)) (cP C)))), (4, .int (nI (0)))]) rfl ?_
  refine z_lvc (lv' := [(0, .ref (a 0)), (1, .ref (nn)), (2, .int (nI (1))), (3, .int (nI (loN C))), (4, .int (nI (0)))]) (by rfl) ?_
  exact en_2 Hb hf0 hE m0 0 (k) (n) C (by omega) (by omega) (by omega) hV hm (En_0 C)
set_option maxHeartbeats 4000000 in
set_option maxRecDepth 100000 in
theorem en_1i {X : zX} {l : Launch} {D : va_G} {g : zG} {A : Nat → Prop} {w0 : va_W} {m0 : Nat} {a : Nat → Nat} {f : Nat → Int32} {nn : Nat} (Hb : enB X l D g A w0) (hf0 : f 0 = nI m0) {C : zMS} (hV : KV C) (hm : cM C = m0) (i : Nat) (hi : i < m0) (hE : E1 C i) (k n KB NB : Nat) (hKB : KB ≤ 272) (hNB : NB ≤ 1632) (hk : k + 3 ≤ KB) (hn : n + 18 ≤ NB) (kk : ∀ (C2 : zMS) (k2 n2 : Nat), k2 ≤ KB → n2 ≤ NB → KV C2 → cM C2 = m0 → E1 C2 (i + 1) → zJ X 6 (zI1 D A (zs X)) (enQ X D g A w0 a f nn m0) ([(nn, .inl (g.1, 3, .inl f))] ++ wC g a C2 (4 * cM C2)) k2 n2 [(0, .ref (a 0)), (1, .ref (nn)), (2, .int (nI (1))), (3, .int (nI (i + 1)))] 4 []) : zJ X 6 (zI1 D A (zs X)) (enQ X D g A w0 a f nn m0) ([(nn, .inl (g.1, 3, .inl f))] ++ wC g a C (4 * cM C)) k n [(0, .ref (a 0)), (1, .ref (nn)), (2, .int (nI (1))), (3, .int (nI (i)))] 4 [] := by
  obtain ⟨hAe, hl, B, hr, hLF, hst⟩ := id Hb
  have hI := KV_I hV
  have hJ := KV_J hV
  have bP := CI_b19 hI
  have bM := CI_b20 hI
  refine z_iload_n B 3 dL_ends_4 rfl rfl ?_
  refine z_aload_n B 1 dL_ends_5 rfl rfl ?_
  refine z_iconst (v := nI 0) B dL_ends_6 (by decide) ?_
  refine z_iald (g := f) (i := 0) B 0 0 rfl rfl (by omega) (by decide) dL_ends_7 ?_
  refine z_top (y := nI (m0)) hf0 ?_
  refine z_icmpN_ge B 55 dL_ends_8 (by decide) (by omega) (by omega) (fun q => absurd q (by omega)) (fun _ => ?_)
  refine z_iload_n B 2 dL_ends_11 rfl rfl ?_
  refine z_if_eq B 55 dL_ends_12 (by decide) (fun h => absurd h (by decide)) (fun _ => ?_)
  refine z_aload_n B 0 dL_ends_15 rfl rfl ?_
  refine z_iload_n B 3 dL_ends_16 rfl rfl ?_
  refine z_callW (As := [.ref (a 0), .int (nI (i))]) (st := [])  B hLF hl (fo_size l D g a C hst hI hJ (nI (i))) gL_ends_L_size rfl ⟨rfl, rfl⟩ nm_L_size ⟨by decide, by decide⟩ rfl (Nat.le_of_ble_eq_true rfl) dL_ends_17 (by omega) (by omega) (show k + 1 ≤ 272 by omega) (show n + 6 ≤ 1632 by omega) (fun r w1 hpq => ?_)
  obtain ⟨rfl, rfl⟩ := hpq
  refine z_ldc (v := (-2000000001)) B 1 rfl dL_ends_20 ?_
  refine z_icmp_eq B 43 dL_ends_22 (by decide) (fun c22 => ?_) (fun c22 => ?_)
  · have hE2 := en_no (by omega) (by omega) hE c22 hI
    refine z_iconst (v := nI 1) B dL_ends_43 (by decide) ?_
    refine z_goto B 48 dL_ends_44 (by decide) ?_
    refine z_istore_n (lv1 := [(2, .int (nI (1))), (0, .ref (a 0)), (1, .ref (nn)), (3, .int (nI (i)))]) B dL_ends_48 rfl (by decide) rfl ?_
    refine z_iinc B 3 (lv1 := [(3, .int (nI (i + 1))), (2, .int (nI (1))), (0, .ref (a 0)), (1, .ref (nn))]) dL_ends_49 rfl (nI_1 _) (by decide) rfl ?_
    refine z_goto B 4 dL_ends_52 (by decide) ?_
    refine z_loc [2, 3, 1, 0] (lv' := [(0, .ref (a 0)), (1, .ref (nn)), (2, .int (nI (1))), (3, .int (nI (i + 1)))]) rfl ?_
    exact kk C (k + 1) (n + 6) (by omega) (by omega) hV hm hE2
  · have hx : cCx C (nI i) := Classical.byContradiction (fun z => c22 (s_size_0 z))
    obtain ⟨i2, e2, hi2, h28⟩ := id hx
    obtain rfl := (nI_eq (by omega) (by omega)).mp e2
    refine z_aload_n B 0 dL_ends_25 rfl rfl ?_
    refine z_iload_n B 3 dL_ends_26 rfl rfl ?_
    refine z_iconst (v := nI 1) B dL_ends_27 (by decide) ?_
    refine z_callW (As := [.ref (a 0), .int (nI (i)), .int (nI (1))]) (st := [])  B hLF hl (fo_carries1 l D g a C hst hI hJ (nI (i))) gL_ends_L_carries rfl ⟨rfl, rfl⟩ nm_L_carries ⟨by decide, by decide⟩ rfl (Nat.le_of_ble_eq_true rfl) dL_ends_28 (by omega) (by omega) (show k + 2 ≤ 272 by omega) (show n + 12 ≤ 1632 by omega) (fun r w1 hpq => ?_)
    obtain ⟨rfl, rfl⟩ := pPost_at (en_ca (by omega) hx) hpq
    have hV2 : KV (bkC C i) := K_carry1 hV hi2 h28
    have hI2 := KV_I hV2
    have hJ2 := KV_J hV2
    have hb := bkQ_le hI i
    have hE2 := en_E1 hE
    have h28b : bkC C i 28 i = 1 := by rw [bkC_k (by omega)]; exact h28
    have hx2 : cCx (bkC C i) (nI i) := ⟨i, rfl, by rw [bkC_M]; exact hi2, h28b⟩
    have hw := en_Wh hV2 (by rw [bkC_M]; exact hi2) h28b hE2
    refine z_if_lt B 47 dL_ends_31 (by decide) (fun h => absurd h (nI_pos (by omega))) (fun _ => ?_)
    refine z_aload_n B 0 dL_ends_34 rfl rfl ?_
    refine z_iload_n B 3 dL_ends_35 rfl rfl ?_
    refine z_callW (As := [.ref (a 0), .int (nI (i))]) (st := [])  B hLF hl (fo_canRestore l D g a (bkC C i) hst hI2 hJ2 (nI (i))) gL_ends_L_canRestore rfl ⟨rfl, rfl⟩ nm_L_canRestore ⟨by decide, by decide⟩ rfl (Nat.le_of_ble_eq_true rfl) dL_ends_36 (by omega) (by omega) (show k + 3 ≤ 272 by omega) (show n + 18 ≤ 1632 by omega) (fun r w1 hpq => ?_)
    obtain ⟨rfl, rfl⟩ := rPost_at (show s_canRestore (bkC C i) (nI (i)) = (bI (cWh (bkC C i) i)) from (s_canRestore_ok hx2).trans (by rw [nN_nI (by omega)])) hpq
    refine z_iconst (v := nI 1) B dL_ends_39 (by decide) ?_
    refine z_icmp_ne B 47 dL_ends_40 (by decide) (fun q => absurd (bI_e1.mpr hw) q) (fun _ => ?_)
    refine z_iconst (v := nI 1) B dL_ends_43 (by decide) ?_
    refine z_goto B 48 dL_ends_44 (by decide) ?_
    refine z_istore_n (lv1 := [(2, .int (nI (1))), (0, .ref (a 0)), (1, .ref (nn)), (3, .int (nI (i)))]) B dL_ends_48 rfl (by decide) rfl ?_
    refine z_iinc B 3 (lv1 := [(3, .int (nI (i + 1))), (2, .int (nI (1))), (0, .ref (a 0)), (1, .ref (nn))]) dL_ends_49 rfl (nI_1 _) (by decide) rfl ?_
    refine z_goto B 4 dL_ends_52 (by decide) ?_
    refine z_loc [2, 3, 1, 0] (lv' := [(0, .ref (a 0)), (1, .ref (nn)), (2, .int (nI (1))), (3, .int (nI (i + 1)))]) rfl ?_
    exact kk (bkC C i) (k + 3) (n + 18) (by omega) (by omega) hV2 (bkC_M.trans hm) hE2
set_option maxHeartbeats 4000000 in
set_option maxRecDepth 100000 in
theorem en_1 {X : zX} {l : Launch} {D : va_G} {g : zG} {A : Nat → Prop} {w0 : va_W} {m0 : Nat} {a : Nat → Nat} {f : Nat → Int32} {nn : Nat} (Hb : enB X l D g A w0) (hf0 : f 0 = nI m0) : ∀ (u i k n : Nat) (C : zMS), i + u = m0 → k + (3 * u + 224) ≤ 272 → n + (18 * u + 1344) ≤ 1632 → KV C → cM C = m0 → E1 C i → zJ X 6 (zI1 D A (zs X)) (enQ X D g A w0 a f nn m0) ([(nn, .inl (g.1, 3, .inl f))] ++ wC g a C (4 * cM C)) k n [(0, .ref (a 0)), (1, .ref (nn)), (2, .int (nI (1))), (3, .int (nI (i)))] 4 [] := by
  intro u
  induction u with
  | zero =>
    intro i k n C hlp hk hn hV hm hE
    exact en_1o Hb hf0 hV hm i (by omega) hE k n (by omega) (by omega)
  | succ u ih =>
    intro i k n C hlp hk hn hV hm hE
    exact en_1i Hb hf0 hV hm i (by omega) hE k n (k + 3) (n + 18) (by omega) (by omega) (by omega) (by omega) (fun C2 k2 n2 h1 h2 a1 a2 a3 => ih (i + 1) k2 n2 C2 (by omega) (by omega) (by omega) a1 a2 a3)

set_option maxHeartbeats 4000000 in
set_option maxRecDepth 100000 in
theorem en_0 {X : zX} {l : Launch} {D : va_G} {g : zG} {A : Nat → Prop} {w0 : va_W} {m0 : Nat} {a : Nat → Nat} {f : Nat → Int32} {nn : Nat} (Hb : enB X l D g A w0) (hf0 : f 0 = nI m0) {C : zMS} (hV : KV C) (hm : cM C = m0) (k n : Nat) (hk : k + 272 ≤ 272) (hn : n + 1632 ≤ 1632) : zJ X 6 (zI1 D A (zs X)) (enQ X D g A w0 a f nn m0) ([(nn, .inl (g.1, 3, .inl f))] ++ wC g a C (4 * cM C)) k n [(0, .ref (a 0)), (1, .ref (nn))] 0 [] := by
  obtain ⟨hAe, hl, B, hr, hLF, hst⟩ := id Hb
  have hI := KV_I hV
  have hJ := KV_J hV
  have bP := CI_b19 hI
  have bM := CI_b20 hI
  refine z_iconst (v := nI 1) B dL_ends_0 (by decide) ?_
  refine z_istore_n (lv1 := [(2, .int (nI (1))), (0, .ref (a 0)), (1, .ref (nn))]) B dL_ends_1 rfl (by decide) rfl ?_
  refine z_iconst (v := nI 0) B dL_ends_2 (by decide) ?_
  refine z_istore_n (lv1 := [(3, .int (nI (0))), (2, .int (nI (1))), (0, .ref (a 0)), (1, .ref (nn))]) B dL_ends_3 rfl (by decide) rfl ?_
  refine z_loc [2, 3, 1, 0] (lv' := [(0, .ref (a 0)), (1, .ref (nn)), (2, .int (nI (1))), (3, .int (nI (0)))]) rfl ?_
  exact en_1 Hb hf0 m0 0 (k) (n) C (by omega) (by omega) (by omega) hV hm (fun d hd => absurd hd (Nat.not_lt_zero d))
theorem c_ends (l : Launch) (D : va_G) (g : zG) (a : Nat → Nat) (C : zMS) (f : Nat → Int32) (nn : Nat) (hst : l.stackTraces = false) (hV : KV C) (hf0 : f 0 = nI (cM C)) : zWrp l yL_ends wsL_ends { frames := 9, cells := 272, slots := 1632, locals := 183 } D (zT g) ([(nn, .inl (g.1, 3, .inl f))] ++ wC g a C (4 * cM C)) [.ref (a 0), .ref nn] (enPost g a f nn (cM C)) 272 1632 := by
  refine zLwI_of (cc := cL_ends) (maxL := 6) (ret := some .boolean) (own := RL) [(0, .ref (a 0)), (1, .ref nn)] (by decide) rfl rfl rfl (Nat.le_of_ble_eq_true rfl) ?_
  intro X A hAe hl B hr hLF
  have Hb : enB X l D g A ([(nn, .inl (g.1, 3, .inl f))] ++ wC g a C (4 * cM C)) := ⟨hAe, hl, B, hr, hLF, hst⟩
  exact en_0 Hb hf0 hV rfl 0 0 (by omega) (by omega)
