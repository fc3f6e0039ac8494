/-! the law's refuses -/
set_option maxHeartbeats 4000000 in
set_option maxRecDepth 100000 in
theorem rf_l1o {X : zX} {l : Launch} {D : va_G} {g : zG} {A : Nat → Prop} {a : Nat → Nat} {C : zMS} {f : Nat → Int32} {nn : Nat} (Hb : rfB X l D g A a C f nn) (hV : KV C) (hf0 : f 0 = nI (cM C)) (hf1 : f 1 = nI (cK C)) (j : Nat) (hj : j < 9973) (p : Nat) (hp : p < cP C) (i : Nat) (hi : i = cK C) (k n : Nat) (hk : k + 120 ≤ 278) (hn : n + 720 ≤ 2817) : zJ X 12 (zI1 D A (zs X)) (rfQ X D g A a C f nn) ([(nn, .inl (g.1, 3, .inl f))] ++ wC g a C (4 * cM C)) k n [(0, .ref (a 0)), (1, .ref (nn)), (2, .int (nI (j))), (8, .int (nI (j % 8))), (9, .int (nI (1))), (10, .int (nI (p))), (11, .int (nI (i)))] 878 [] := by
  obtain ⟨hAe, hl, B, hr, hLF, hst⟩ := id Hb
  have hI := KV_I hV
  have hJ := KV_J hV
  have bP := CI_b19 hI
  have bM := CI_b20 hI
  have bK := CI_b22 hI
  have bT := CI_b0 hI
  refine z_iload B 6 dL_refuses_878 rfl ?_
  refine z_aload_n B 1 dL_refuses_880 rfl rfl ?_
  refine z_iconst (v := nI 1) B dL_refuses_881 (by decide) ?_
  refine z_iald (g := f) (i := 1) B 0 0 rfl rfl (by omega) (by decide) dL_refuses_882 ?_
  refine z_top (y := nI (cK C)) hf1 ?_
  refine z_icmpN_ge B 929 dL_refuses_883 (by decide) (by omega) (by omega) (fun _ => ?_) (fun q => absurd q (by omega))
  refine z_loc [0, 1, 2, 3, 4] (lv' := [(0, .ref (a 0)), (1, .ref (nn)), (2, .int (nI (j))), (8, .int (nI (j % 8))), (9, .int (nI (1)))]) rfl ?_
  exact rf_929 Hb hV hf0 hf1 j hj (k) (n) (by omega) (by omega)
set_option maxHeartbeats 4000000 in
set_option maxRecDepth 100000 in
theorem rf_l1i {X : zX} {l : Launch} {D : va_G} {g : zG} {A : Nat → Prop} {a : Nat → Nat} {C : zMS} {f : Nat → Int32} {nn : Nat} (Hb : rfB X l D g A a C f nn) (hV : KV C) (hf0 : f 0 = nI (cM C)) (hf1 : f 1 = nI (cK C)) (j : Nat) (hj : j < 9973) (p : Nat) (hp : p < cP C) (i : Nat) (hi : i < cK C) (k n KB NB : Nat) (hKB : KB ≤ 278) (hNB : NB ≤ 2817) (hk : k + 5 ≤ KB) (hn : n + 30 ≤ NB) (kk : ∀ (k2 n2 : Nat), k2 ≤ KB → n2 ≤ NB → zJ X 12 (zI1 D A (zs X)) (rfQ X D g A a C f nn) ([(nn, .inl (g.1, 3, .inl f))] ++ wC g a C (4 * cM C)) k2 n2 [(0, .ref (a 0)), (1, .ref (nn)), (2, .int (nI (j))), (8, .int (nI (j % 8))), (9, .int (nI (1))), (10, .int (nI (p))), (11, .int (nI (i + 1)))] 878 []) : zJ X 12 (zI1 D A (zs X)) (rfQ X D g A a C f nn) ([(nn, .inl (g.1, 3, .inl f))] ++ wC g a C (4 * cM C)) k n [(0, .ref (a 0)), (1, .ref (nn)), (2, .int (nI (j))), (8, .int (nI (j % 8))), (9, .int (nI (1))), (10, .int (nI (p))), (11, .int (nI (i)))] 878 [] := by
  obtain ⟨hAe, hl, B, hr, hLF, hst⟩ := id Hb
  have hI := KV_I hV
  have hJ := KV_J hV
  have bP := CI_b19 hI
  have bM := CI_b20 hI
  have bK := CI_b22 hI
  have bT := CI_b0 hI
  have hri : rng (nI i) (cK C) := rn_in hi
  have hrp : rng (nI p) (cP C) := rn_in hp
  refine z_iload B 6 dL_refuses_878 rfl ?_
  refine z_aload_n B 1 dL_refuses_880 rfl rfl ?_
  refine z_iconst (v := nI 1) B dL_refuses_881 (by decide) ?_
  refine z_iald (g := f) (i := 1) B 0 0 rfl rfl (by omega) (by decide) dL_refuses_882 ?_
  refine z_top (y := nI (cK C)) hf1 ?_
  refine z_icmpN_ge B 929 dL_refuses_883 (by decide) (by omega) (by omega) (fun q => absurd q (by omega)) (fun _ => ?_)
  refine z_iload B 4 dL_refuses_886 rfl ?_
  refine z_if_eq B 929 dL_refuses_888 (by decide) (fun h => absurd h (by decide)) (fun _ => ?_)
  refine z_aload_n B 0 dL_refuses_891 rfl rfl ?_
  refine z_iload B 6 dL_refuses_892 rfl ?_
  refine z_iload B 5 dL_refuses_894 rfl ?_
  refine z_callW (As := [.ref (a 0), .int (nI (i)), .int (nI (p))]) (st := [])  B hLF hl (fo_canStrike l D g a C hst hI (nI (i)) (nI (p))) gL_refuses_L_canStrike rfl ⟨rfl, rfl⟩ nm_L_canStrike ⟨by decide, by decide⟩ rfl (Nat.le_of_ble_eq_true rfl) dL_refuses_896 (by omega) (by omega) (show k + 2 ≤ 278 by omega) (show n + 12 ≤ 2817 by omega) (fun r w1 hpq => ?_)
  obtain ⟨rfl, rfl⟩ := rPost_at (show s_canStrike C (nI (i)) (nI (p)) = (bI (cMay C (nN (nI i)) (nN (nI p)))) from s_canStrike_ok hri hrp) hpq
  refine z_iconst (v := nI 1) B dL_refuses_899 (by decide) ?_
  refine z_icmp_eq B 916 dL_refuses_900 (by decide) (fun c900 => ?_) (fun c900 => ?_)
  · refine z_iconst (v := nI 1) B dL_refuses_916 (by decide) ?_
    refine z_goto B 921 dL_refuses_917 (by decide) ?_
    refine z_istore (lv1 := [(9, .int (nI (1))), (0, .ref (a 0)), (1, .ref (nn)), (2, .int (nI (j))), (8, .int (nI (j % 8))), (10, .int (nI (p))), (11, .int (nI (i)))]) B dL_refuses_921 (by decide) rfl ?_
    refine z_iinc B 6 (lv1 := [(11, .int (nI (i + 1))), (9, .int (nI (1))), (0, .ref (a 0)), (1, .ref (nn)), (2, .int (nI (j))), (8, .int (nI (j % 8))), (10, .int (nI (p)))]) dL_refuses_923 rfl (nI_1 _) (by decide) rfl ?_
    refine z_goto B 878 dL_refuses_926 (by decide) ?_
    refine z_loc [2, 3, 4, 5, 1, 6, 0] (lv' := [(0, .ref (a 0)), (1, .ref (nn)), (2, .int (nI (j))), (8, .int (nI (j % 8))), (9, .int (nI (1))), (10, .int (nI (p))), (11, .int (nI (i + 1)))]) rfl ?_
    exact kk (k + 2) (n + 12) (by omega) (by omega)
  · refine z_aload_n B 0 dL_refuses_903 rfl rfl ?_
    refine z_iload B 6 dL_refuses_904 rfl ?_
    refine z_iload B 5 dL_refuses_906 rfl ?_
    refine z_callW (As := [.ref (a 0), .int (nI (i)), .int (nI (p))]) (st := [])  B hLF hl (fo_strikes l D g a C hst hI (nI (i)) (nI (p))) gL_refuses_L_strikes rfl ⟨rfl, rfl⟩ nm_L_strikes ⟨by decide, by decide⟩ rfl (Nat.le_of_ble_eq_true rfl) dL_refuses_908 (by omega) (by omega) (show k + 5 ≤ 278 by omega) (show n + 30 ≤ 2817 by omega) (fun r w1 hpq => ?_)
    obtain ⟨rfl, rfl⟩ := pPost_at (o_strikes_2 hri hrp (fun z => c900 (bI_e1.mpr z))) hpq
    refine z_ldc (v := (-2000000003)) B 4 rfl dL_refuses_911 ?_
    refine z_icmp_ne B 920 dL_refuses_913 (by decide) (fun q => absurd rfl q) (fun _ => ?_)
    refine z_iconst (v := nI 1) B dL_refuses_916 (by decide) ?_
    refine z_goto B 921 dL_refuses_917 (by decide) ?_
    refine z_istore (lv1 := [(9, .int (nI (1))), (0, .ref (a 0)), (1, .ref (nn)), (2, .int (nI (j))), (8, .int (nI (j % 8))), (10, .int (nI (p))), (11, .int (nI (i)))]) B dL_refuses_921 (by decide) rfl ?_
    refine z_iinc B 6 (lv1 := [(11, .int (nI (i + 1))), (9, .int (nI (1))), (0, .ref (a 0)), (1, .ref (nn)), (2, .int (nI (j))), (8, .int (nI (j % 8))), (10, .int (nI (p)))]) dL_refuses_923 rfl (nI_1 _) (by decide) rfl ?_
    refine z_goto B 878 dL_refuses_926 (by decide) ?_
    refine z_loc [2, 3, 4, 5, 1, 6, 0] (lv' := [(0, .ref (a 0)), (1, .ref (nn)), (2, .int (nI (j))), (8, .int (nI (j % 8))), (9, .int (nI (1))), (10, .int (nI (p))), (11, .int (nI (i + 1)))]) rfl ?_
    exact kk (k + 5) (n + 30) (by omega) (by omega)
set_option maxHeartbeats 4000000 in
set_option maxRecDepth 100000 in
theorem rf_l1 {X : zX} {l : Launch} {D : va_G} {g : zG} {A : Nat → Prop} {a : Nat → Nat} {C : zMS} {f : Nat → Int32} {nn : Nat} (Hb : rfB X l D g A a C f nn) (hV : KV C) (hf0 : f 0 = nI (cM C)) (hf1 : f 1 = nI (cK C)) (j : Nat) (hj : j < 9973) (p : Nat) (hp : p < cP C) : ∀ (u i k n : Nat), i + u = cK C → k + (5 * u + 120) ≤ 278 → n + (30 * u + 720) ≤ 2817 → zJ X 12 (zI1 D A (zs X)) (rfQ X D g A a C f nn) ([(nn, .inl (g.1, 3, .inl f))] ++ wC g a C (4 * cM C)) k n [(0, .ref (a 0)), (1, .ref (nn)), (2, .int (nI (j))), (8, .int (nI (j % 8))), (9, .int (nI (1))), (10, .int (nI (p))), (11, .int (nI (i)))] 878 [] := by
  intro u
  induction u with
  | zero =>
    intro i k n hlp hk hn
    exact rf_l1o Hb hV hf0 hf1 j hj p hp i (by omega) k n (by omega) (by omega)
  | succ u ih =>
    intro i k n hlp hk hn
    exact rf_l1i Hb hV hf0 hf1 j hj p hp i (by omega) k n (k + 5) (n + 30) (by omega) (by omega) (Nat.le_refl _) (Nat.le_refl _) (fun k2 n2 h1 h2 => ih (i + 1) k2 n2 (by omega) (by omega) (by omega))

set_option maxHeartbeats 4000000 in
set_option maxRecDepth 100000 in
theorem rf_868 {X : zX} {l : Launch} {D : va_G} {g : zG} {A : Nat → Prop} {a : Nat → Nat} {C : zMS} {f : Nat → Int32} {nn : Nat} (Hb : rfB X l D g A a C f nn) (hV : KV C) (hf0 : f 0 = nI (cM C)) (hf1 : f 1 = nI (cK C)) (j : Nat) (hj : j < 9973) (p : Nat) (hp : p < cP C) (k n : Nat) (hk : k + 160 ≤ 278) (hn : n + 960 ≤ 2817) : zJ X 12 (zI1 D A (zs X)) (rfQ X D g A a C f nn) ([(nn, .inl (g.1, 3, .inl f))] ++ wC g a C (4 * cM C)) k n [(0, .ref (a 0)), (1, .ref (nn)), (2, .int (nI (j))), (8, .int (nI (j % 8))), (10, .int (nI (p)))] 868 [] := by
  obtain ⟨hAe, hl, B, hr, hLF, hst⟩ := id Hb
  have hI := KV_I hV
  have hJ := KV_J hV
  have bP := CI_b19 hI
  have bM := CI_b20 hI
  have bK := CI_b22 hI
  have bT := CI_b0 hI
  refine z_iconst (v := nI 1) B dL_refuses_868 (by decide) ?_
  refine z_goto B 873 dL_refuses_869 (by decide) ?_
  refine z_istore (lv1 := [(9, .int (nI (1))), (0, .ref (a 0)), (1, .ref (nn)), (2, .int (nI (j))), (8, .int (nI (j % 8))), (10, .int (nI (p)))]) B dL_refuses_873 (by decide) rfl ?_
  refine z_iconst (v := nI 0) B dL_refuses_875 (by decide) ?_
  refine z_istore (lv1 := [(11, .int (nI (0))), (9, .int (nI (1))), (0, .ref (a 0)), (1, .ref (nn)), (2, .int (nI (j))), (8, .int (nI (j % 8))), (10, .int (nI (p)))]) B dL_refuses_876 (by decide) rfl ?_
  refine z_loc [2, 3, 4, 5, 1, 6, 0] (lv' := [(0, .ref (a 0)), (1, .ref (nn)), (2, .int (nI (j))), (8, .int (nI (j % 8))), (9, .int (nI (1))), (10, .int (nI (p))), (11, .int (nI (0)))]) rfl ?_
  exact rf_l1 Hb hV hf0 hf1 j hj p hp (cK C) 0 (k) (n) (by omega) (by omega) (by omega)
set_option maxHeartbeats 4000000 in
set_option maxRecDepth 100000 in
theorem rf_833 {X : zX} {l : Launch} {D : va_G} {g : zG} {A : Nat → Prop} {a : Nat → Nat} {C : zMS} {f : Nat → Int32} {nn : Nat} (Hb : rfB X l D g A a C f nn) (hV : KV C) (hf0 : f 0 = nI (cM C)) (hf1 : f 1 = nI (cK C)) (j : Nat) (hj : j < 9973) (p : Nat) (hp : p < cP C) (k n : Nat) (hk : k + 166 ≤ 278) (hn : n + 996 ≤ 2817) : zJ X 12 (zI1 D A (zs X)) (rfQ X D g A a C f nn) ([(nn, .inl (g.1, 3, .inl f))] ++ wC g a C (4 * cM C)) k n [(0, .ref (a 0)), (1, .ref (nn)), (2, .int (nI (j))), (8, .int (nI (j % 8))), (10, .int (nI (p)))] 833 [] := by
  obtain ⟨hAe, hl, B, hr, hLF, hst⟩ := id Hb
  have hI := KV_I hV
  have hJ := KV_J hV
  have bP := CI_b19 hI
  have bM := CI_b20 hI
  have bK := CI_b22 hI
  have bT := CI_b0 hI
  have hrp : rng (nI p) (cP C) := rn_in hp
  have ep : nN (nI p) = p := nN_nI (by omega)
  refine z_aload_n B 0 dL_refuses_833 rfl rfl ?_
  refine z_iload B 4 dL_refuses_834 rfl ?_
  refine z_callW (As := [.ref (a 0), .int (nI (p))]) (st := [])  B hLF hl (fo_reversal l D g a C hst hI (nI (p))) gL_refuses_L_reversal rfl ⟨rfl, rfl⟩ nm_L_reversal ⟨by decide, by decide⟩ rfl (Nat.le_of_ble_eq_true rfl) dL_refuses_836 (by omega) (by omega) (show k + 1 ≤ 278 by omega) (show n + 6 ≤ 2817 by omega) (fun r w1 hpq => ?_)
  obtain ⟨rfl, rfl⟩ := rPost_at (show s_reversal C (nI (p)) = (C 12 (nN (nI p))) from s_reversal_ok hrp) hpq
  refine z_if_lt B 868 dL_refuses_839 (by decide) (fun c839 => ?_) (fun c839 => ?_)
  · refine z_loc [0, 1, 2, 3, 4] (lv' := [(0, .ref (a 0)), (1, .ref (nn)), (2, .int (nI (j))), (8, .int (nI (j % 8))), (10, .int (nI (p)))]) rfl ?_
    exact rf_868 Hb hV hf0 hf1 j hj p hp (k + 1) (n + 6) (by omega) (by omega)
  · obtain ⟨q, hq, hq2, hq3⟩ := K_rv hV hp (by rw [ep] at c839; exact c839)
    refine z_aload_n B 0 dL_refuses_842 rfl rfl ?_
    refine z_iload B 4 dL_refuses_843 rfl ?_
    refine z_callW (As := [.ref (a 0), .int (nI (p))]) (st := [])  B hLF hl (fo_reverses l D g a C hst hI (nI (p))) gL_refuses_L_reverses rfl ⟨rfl, rfl⟩ nm_L_reverses ⟨by decide, by decide⟩ rfl (Nat.le_of_ble_eq_true rfl) dL_refuses_845 (by omega) (by omega) (show k + 3 ≤ 278 by omega) (show n + 18 ≤ 2817 by omega) (fun r w1 hpq => ?_)
    obtain ⟨rfl, rfl⟩ := pPost_at (o_reverses_1 hrp (fun z => z.1.2.1 (Int32.not_lt.mp c839))) hpq
    refine z_ldc (v := (-2000000003)) B 4 rfl dL_refuses_848 ?_
    refine z_icmp_ne B 872 dL_refuses_850 (by decide) (fun q => absurd rfl q) (fun _ => ?_)
    refine z_aload_n B 0 dL_refuses_853 rfl rfl ?_
    refine z_aload_n B 0 dL_refuses_854 rfl rfl ?_
    refine z_iload B 4 dL_refuses_855 rfl ?_
    refine z_callW (As := [.ref (a 0), .int (nI (p))]) (st := [.ref (a 0)])  B hLF hl (fo_reversal l D g a C hst hI (nI (p))) gL_refuses_L_reversal rfl ⟨rfl, rfl⟩ nm_L_reversal ⟨by decide, by decide⟩ rfl (Nat.le_of_ble_eq_true rfl) dL_refuses_857 (by omega) (by omega) (show k + 4 ≤ 278 by omega) (show n + 24 ≤ 2817 by omega) (fun r w1 hpq => ?_)
    obtain ⟨rfl, rfl⟩ := rPost_at (show s_reversal C (nI (p)) = (C 12 (nN (nI p))) from s_reversal_ok hrp) hpq
    refine z_top (y := nI (q)) (by rw [ep]; exact hq2) ?_
    refine z_callW (As := [.ref (a 0), .int (nI (q))]) (st := [])  B hLF hl (fo_reverses l D g a C hst hI (nI (q))) gL_refuses_L_reverses rfl ⟨rfl, rfl⟩ nm_L_reverses ⟨by decide, by decide⟩ rfl (Nat.le_of_ble_eq_true rfl) dL_refuses_860 (by omega) (by omega) (show k + 6 ≤ 278 by omega) (show n + 36 ≤ 2817 by omega) (fun r w1 hpq => ?_)
    obtain ⟨rfl, rfl⟩ := pPost_at (o_reverses_1 (rn_in hq) (fun z => hq3 (by have := z.1.2.2; rw [nN_nI (by omega)] at this; exact this))) hpq
    refine z_ldc (v := (-2000000003)) B 4 rfl dL_refuses_863 ?_
    refine z_icmp_ne B 872 dL_refuses_865 (by decide) (fun q => absurd rfl q) (fun _ => ?_)
    refine z_loc [0, 1, 2, 3, 4] (lv' := [(0, .ref (a 0)), (1, .ref (nn)), (2, .int (nI (j))), (8, .int (nI (j % 8))), (10, .int (nI (p)))]) rfl ?_
    exact rf_868 Hb hV hf0 hf1 j hj p hp (k + 6) (n + 36) (by omega) (by omega)
set_option maxHeartbeats 4000000 in
set_option maxRecDepth 100000 in
theorem rf_801 {X : zX} {l : Launch} {D : va_G} {g : zG} {A : Nat → Prop} {a : Nat → Nat} {C : zMS} {f : Nat → Int32} {nn : Nat} (Hb : rfB X l D g A a C f nn) (hV : KV C) (hf0 : f 0 = nI (cM C)) (hf1 : f 1 = nI (cK C)) (j : Nat) (hj : j < 9973) (p : Nat) (hp : p < cP C) (k n : Nat) (hk : k + 171 ≤ 278) (hn : n + 1026 ≤ 2817) : zJ X 12 (zI1 D A (zs X)) (rfQ X D g A a C f nn) ([(nn, .inl (g.1, 3, .inl f))] ++ wC g a C (4 * cM C)) k n [(0, .ref (a 0)), (1, .ref (nn)), (2, .int (nI (j))), (8, .int (nI (j % 8))), (10, .int (nI (p)))] 801 [] := by
  obtain ⟨hAe, hl, B, hr, hLF, hst⟩ := id Hb
  have hI := KV_I hV
  have hJ := KV_J hV
  have bP := CI_b19 hI
  have bM := CI_b20 hI
  have bK := CI_b22 hI
  have bT := CI_b0 hI
  have hrp : rng (nI p) (cP C) := rn_in hp
  have ep : nN (nI p) = p := nN_nI (by omega)
  refine z_aload_n B 0 dL_refuses_801 rfl rfl ?_
  refine z_iload B 4 dL_refuses_802 rfl ?_
  refine z_callW (As := [.ref (a 0), .int (nI (p))]) (st := [])  B hLF hl (fo_state l D g a C hst hI (nI (p))) gL_refuses_L_state rfl ⟨rfl, rfl⟩ nm_L_state ⟨by decide, by decide⟩ rfl (Nat.le_of_ble_eq_true rfl) dL_refuses_804 (by omega) (by omega) (show k + 1 ≤ 278 by omega) (show n + 6 ≤ 2817 by omega) (fun r w1 hpq => ?_)
  obtain ⟨rfl, rfl⟩ := rPost_at (show s_state C (nI (p)) = nI (cSt C (nN (nI p))) from s_state_ok hrp) hpq
  have hs3 := St_lt (C := C) (p := nN (nI p))
  refine z_ifN_eq B 833 dL_refuses_807 (by decide) (by omega) (fun c807 => ?_) (fun c807 => ?_)
  · refine z_loc [0, 1, 2, 3, 4] (lv' := [(0, .ref (a 0)), (1, .ref (nn)), (2, .int (nI (j))), (8, .int (nI (j % 8))), (10, .int (nI (p)))]) rfl ?_
    exact rf_833 Hb hV hf0 hf1 j hj p hp (k + 1) (n + 6) (by omega) (by omega)
  · have h17 : C 17 (nN (nI p)) = 0 := by rw [ep] at c807 ⊢; exact St_n0 hV hp (by omega)
    refine z_aload_n B 0 dL_refuses_810 rfl rfl ?_
    refine z_iload B 4 dL_refuses_811 rfl ?_
    refine z_iconst (v := nI 0) B dL_refuses_813 (by decide) ?_
    refine z_iconst (v := nI 1) B dL_refuses_814 (by decide) ?_
    refine z_callW (As := [.ref (a 0), .int (nI (p)), .int (nI (0)), .int (nI (1))]) (st := [])  B hLF hl (fo_alters l D g a C hst hI (nI (p)) (nI (0)) (nI (1))) gL_refuses_L_alters rfl ⟨rfl, rfl⟩ nm_L_alters ⟨by decide, by decide⟩ rfl (Nat.le_of_ble_eq_true rfl) dL_refuses_815 (by omega) (by omega) (show k + 4 ≤ 278 by omega) (show n + 24 ≤ 2817 by omega) (fun r w1 hpq => ?_)
    obtain ⟨rfl, rfl⟩ := pPost_at (o_alters_3 hrp ⟨0, by omega, rfl⟩ ⟨by decide, by decide⟩ (fun z => z.1 h17)) hpq
    refine z_ldc (v := (-2000000003)) B 4 rfl dL_refuses_818 ?_
    refine z_icmp_ne B 872 dL_refuses_820 (by decide) (fun q => absurd rfl q) (fun _ => ?_)
    refine z_aload_n B 0 dL_refuses_823 rfl rfl ?_
    refine z_iload B 4 dL_refuses_824 rfl ?_
    refine z_callW (As := [.ref (a 0), .int (nI (p))]) (st := [])  B hLF hl (fo_text l D g a C hst hI (nI (p))) gL_refuses_L_text rfl ⟨rfl, rfl⟩ nm_L_text ⟨by decide, by decide⟩ rfl (Nat.le_of_ble_eq_true rfl) dL_refuses_826 (by omega) (by omega) (show k + 5 ≤ 278 by omega) (show n + 30 ≤ 2817 by omega) (fun r w1 hpq => ?_)
    obtain ⟨rfl, rfl⟩ := rPost_at (show s_text C (nI (p)) = (-1) from (s_text_ok hrp).trans (ifI_f (not_not_intro h17))) hpq
    refine z_iconst (v := (-1)) B dL_refuses_829 (by decide) ?_
    refine z_icmp_ne B 872 dL_refuses_830 (by decide) (fun q => absurd rfl q) (fun _ => ?_)
    refine z_loc [0, 1, 2, 3, 4] (lv' := [(0, .ref (a 0)), (1, .ref (nn)), (2, .int (nI (j))), (8, .int (nI (j % 8))), (10, .int (nI (p)))]) rfl ?_
    exact rf_833 Hb hV hf0 hf1 j hj p hp (k + 5) (n + 30) (by omega) (by omega)
set_option maxHeartbeats 4000000 in
set_option maxRecDepth 100000 in
theorem rf_719 {X : zX} {l : Launch} {D : va_G} {g : zG} {A : Nat → Prop} {a : Nat → Nat} {C : zMS} {f : Nat → Int32} {nn : Nat} (Hb : rfB X l D g A a C f nn) (hV : KV C) (hf0 : f 0 = nI (cM C)) (hf1 : f 1 = nI (cK C)) (j : Nat) (hj : j < 9973) (p : Nat) (hp : p < cP C) (acc : Int32) (hacc : ¬ rng acc 8) (k n : Nat) (hk : k + 184 ≤ 278) (hn : n + 1104 ≤ 2817) : zJ X 12 (zI1 D A (zs X)) (rfQ X D g A a C f nn) ([(nn, .inl (g.1, 3, .inl f))] ++ wC g a C (4 * cM C)) k n [(0, .ref (a 0)), (1, .ref (nn)), (2, .int (nI (j))), (4, .int (acc)), (8, .int (nI (j % 8))), (10, .int (nI (p)))] 719 [] := by
  obtain ⟨hAe, hl, B, hr, hLF, hst⟩ := id Hb
  have hI := KV_I hV
  have hJ := KV_J hV
  have bP := CI_b19 hI
  have bM := CI_b20 hI
  have bK := CI_b22 hI
  have bT := CI_b0 hI
  have hrp : rng (nI p) (cP C) := rn_in hp
  have ep : nN (nI p) = p := nN_nI (by omega)
  refine z_aload_n B 0 dL_refuses_719 rfl rfl ?_
  refine z_iload B 5 dL_refuses_720 rfl ?_
  refine z_iconst (v := nI 4) B dL_refuses_722 (by decide) ?_
  refine z_iload_n B 2 dL_refuses_723 rfl rfl ?_
  refine z_iaddN B dL_refuses_724 ?_
  refine z_iconst (v := nI 0) B dL_refuses_725 (by decide) ?_
  refine z_callW (As := [.ref (a 0), .int (nI (p)), .int (nI (4 + j)), .int (nI (0))]) (st := [])  B hLF hl (fo_alters l D g a C hst hI (nI (p)) (nI (4 + j)) (nI (0))) gL_refuses_L_alters rfl ⟨rfl, rfl⟩ nm_L_alters ⟨by decide, by decide⟩ rfl (Nat.le_of_ble_eq_true rfl) dL_refuses_726 (by omega) (by omega) (show k + 3 ≤ 278 by omega) (show n + 18 ≤ 2817 by omega) (fun r w1 hpq => ?_)
  obtain ⟨rfl, rfl⟩ := pPost_at (o_alters_1 hrp (rn_no (by omega) (by omega) (by omega))) hpq
  refine z_ldc (v := (-2000000002)) B 2 rfl dL_refuses_729 ?_
  refine z_icmp_ne B 872 dL_refuses_731 (by decide) (fun q => absurd rfl q) (fun _ => ?_)
  refine z_aload_n B 0 dL_refuses_734 rfl rfl ?_
  refine z_iload B 5 dL_refuses_735 rfl ?_
  refine z_iconst (v := nI 0) B dL_refuses_737 (by decide) ?_
  refine z_sipush (v := nI 10001) B dL_refuses_738 (by decide) ?_
  refine z_iload_n B 2 dL_refuses_741 rfl rfl ?_
  refine z_iaddN B dL_refuses_742 ?_
  refine z_callW (As := [.ref (a 0), .int (nI (p)), .int (nI (0)), .int (nI (10001 + j))]) (st := [])  B hLF hl (fo_alters l D g a C hst hI (nI (p)) (nI (0)) (nI (10001 + j))) gL_refuses_L_alters rfl ⟨rfl, rfl⟩ nm_L_alters ⟨by decide, by decide⟩ rfl (Nat.le_of_ble_eq_true rfl) dL_refuses_743 (by omega) (by omega) (show k + 6 ≤ 278 by omega) (show n + 36 ≤ 2817 by omega) (fun r w1 hpq => ?_)
  obtain ⟨rfl, rfl⟩ := pPost_at (o_alters_2 hrp ⟨0, by omega, rfl⟩ (fun z => i_p4 (by omega) z.2)) hpq
  refine z_ldc (v := (-2000000002)) B 2 rfl dL_refuses_746 ?_
  refine z_icmp_ne B 872 dL_refuses_748 (by decide) (fun q => absurd rfl q) (fun _ => ?_)
  refine z_aload_n B 0 dL_refuses_751 rfl rfl ?_
  refine z_iload B 5 dL_refuses_752 rfl ?_
  refine z_sipush (v := nI 10000) B dL_refuses_754 (by decide) ?_
  refine z_iload_n B 2 dL_refuses_757 rfl rfl ?_
  refine z_iaddN B dL_refuses_758 ?_
  refine z_callW (As := [.ref (a 0), .int (nI (p)), .int (nI (10000 + j))]) (st := [])  B hLF hl (fo_proves l D g a C hst hI (nI (p)) (nI (10000 + j))) gL_refuses_L_proves rfl ⟨rfl, rfl⟩ nm_L_proves ⟨by decide, by decide⟩ rfl (Nat.le_of_ble_eq_true rfl) dL_refuses_759 (by omega) (by omega) (show k + 8 ≤ 278 by omega) (show n + 48 ≤ 2817 by omega) (fun r w1 hpq => ?_)
  obtain ⟨rfl, rfl⟩ := rPost_at (show s_proves C (nI (p)) (nI (10000 + j)) = (-2000000002) from s_proves_1 hrp (rn_no (by omega) (by omega) (by omega))) hpq
  refine z_ldc (v := (-2000000002)) B 2 rfl dL_refuses_762 ?_
  refine z_icmp_ne B 872 dL_refuses_764 (by decide) (fun q => absurd rfl q) (fun _ => ?_)
  refine z_aload_n B 0 dL_refuses_767 rfl rfl ?_
  refine z_iload B 5 dL_refuses_768 rfl ?_
  refine z_iload B 3 dL_refuses_770 rfl ?_
  refine z_callW (As := [.ref (a 0), .int (nI (p)), .int (acc)]) (st := [])  B hLF hl (fo_proven l D g a C hst hI (nI (p)) acc) gL_refuses_L_proven rfl ⟨rfl, rfl⟩ nm_L_proven ⟨by decide, by decide⟩ rfl (Nat.le_of_ble_eq_true rfl) dL_refuses_772 (by omega) (by omega) (show k + 10 ≤ 278 by omega) (show n + 60 ≤ 2817 by omega) (fun r w1 hpq => ?_)
  obtain ⟨rfl, rfl⟩ := rPost_at (show s_proven C (nI (p)) acc = (-2000000001) from s_proven_1 hrp hacc) hpq
  refine z_ldc (v := (-2000000001)) B 1 rfl dL_refuses_775 ?_
  refine z_icmp_ne B 872 dL_refuses_777 (by decide) (fun q => absurd rfl q) (fun _ => ?_)
  refine z_aload_n B 0 dL_refuses_780 rfl rfl ?_
  refine z_iload B 5 dL_refuses_781 rfl ?_
  refine z_callW (As := [.ref (a 0), .int (nI (p))]) (st := [])  B hLF hl (fo_isTrue l D g a C hst hI (nI (p))) gL_refuses_L_isTrue rfl ⟨rfl, rfl⟩ nm_L_isTrue ⟨by decide, by decide⟩ rfl (Nat.le_of_ble_eq_true rfl) dL_refuses_783 (by omega) (by omega) (show k + 11 ≤ 278 by omega) (show n + 66 ≤ 2817 by omega) (fun r w1 hpq => ?_)
  obtain ⟨rfl, rfl⟩ := rPost_at (show s_isTrue C (nI (p)) = (bI (cTB C (nN (nI p)))) from s_isTrue_ok hrp) hpq
  refine z_iconst (v := nI 1) B dL_refuses_786 (by decide) ?_
  refine z_icmp_eq B 801 dL_refuses_787 (by decide) (fun c787 => ?_) (fun c787 => ?_)
  · refine z_loc [0, 1, 2, 4, 5] (lv' := [(0, .ref (a 0)), (1, .ref (nn)), (2, .int (nI (j))), (8, .int (nI (j % 8))), (10, .int (nI (p)))]) rfl ?_
    exact rf_801 Hb hV hf0 hf1 j hj p hp (k + 11) (n + 66) (by omega) (by omega)
  · refine z_aload_n B 0 dL_refuses_790 rfl rfl ?_
    refine z_iload B 5 dL_refuses_791 rfl ?_
    refine z_callW (As := [.ref (a 0), .int (nI (p))]) (st := [])  B hLF hl (fo_reverses l D g a C hst hI (nI (p))) gL_refuses_L_reverses rfl ⟨rfl, rfl⟩ nm_L_reverses ⟨by decide, by decide⟩ rfl (Nat.le_of_ble_eq_true rfl) dL_refuses_793 (by omega) (by omega) (show k + 13 ≤ 278 by omega) (show n + 78 ≤ 2817 by omega) (fun r w1 hpq => ?_)
    obtain ⟨rfl, rfl⟩ := pPost_at (o_reverses_1 hrp (fun z => c787 (bI_e1.mpr z.1.1))) hpq
    refine z_ldc (v := (-2000000003)) B 4 rfl dL_refuses_796 ?_
    refine z_icmp_ne B 872 dL_refuses_798 (by decide) (fun q => absurd rfl q) (fun _ => ?_)
    refine z_loc [0, 1, 2, 4, 5] (lv' := [(0, .ref (a 0)), (1, .ref (nn)), (2, .int (nI (j))), (8, .int (nI (j % 8))), (10, .int (nI (p)))]) rfl ?_
    exact rf_801 Hb hV hf0 hf1 j hj p hp (k + 13) (n + 78) (by omega) (by omega)
set_option maxHeartbeats 4000000 in
set_option maxRecDepth 100000 in
theorem rf_694z {X : zX} {l : Launch} {D : va_G} {g : zG} {A : Nat → Prop} {a : Nat → Nat} {C : zMS} {f : Nat → Int32} {nn : Nat} (Hb : rfB X l D g A a C f nn) (hV : KV C) (hf0 : f 0 = nI (cM C)) (hf1 : f 1 = nI (cK C)) (j : Nat) (hj : j < 9973) (hp : 0 < cP C) (acc : Int32) (hacc : ¬ rng acc 8) (k n : Nat) (hk : k + 187 ≤ 278) (hn : n + 1122 ≤ 2817) : zJ X 12 (zI1 D A (zs X)) (rfQ X D g A a C f nn) ([(nn, .inl (g.1, 3, .inl f))] ++ wC g a C (4 * cM C)) k n [(0, .ref (a 0)), (1, .ref (nn)), (2, .int (nI (j))), (4, .int (acc)), (8, .int (nI (j % 8))), (10, .int (nI (0)))] 694 [] := by
  obtain ⟨hAe, hl, B, hr, hLF, hst⟩ := id Hb
  have hI := KV_I hV
  have hJ := KV_J hV
  have bP := CI_b19 hI
  have bM := CI_b20 hI
  have bK := CI_b22 hI
  have bT := CI_b0 hI
  refine z_aload_n B 0 dL_refuses_694 rfl rfl ?_
  refine z_iload B 5 dL_refuses_695 rfl ?_
  refine z_iload B 5 dL_refuses_697 rfl ?_
  refine z_iconst (v := nI 1) B dL_refuses_699 (by decide) ?_
  refine z_isub B dL_refuses_700 ?_
  refine z_top (y := (nI (0) - nI (1))) (rfl) ?_
  refine z_callW (As := [.ref (a 0), .int (nI (0)), .int ((nI (0) - nI (1)))]) (st := [])  B hLF hl (fo_burns l D g a C hst hI (nI (0)) (nI (0) - nI (1))) gL_refuses_L_burns rfl ⟨rfl, rfl⟩ nm_L_burns ⟨by decide, by decide⟩ rfl (Nat.le_of_ble_eq_true rfl) dL_refuses_701 (by omega) (by omega) (show k + 3 ≤ 278 by omega) (show n + 18 ≤ 2817 by omega) (fun r w1 hpq => ?_)
  obtain ⟨rfl, rfl⟩ := pPost_at (o_burns_1 (rn_in hp) (rng_lt0 (by omega) (by decide))) hpq
  refine z_iload B 5 dL_refuses_704 rfl ?_
  refine z_if_ne B 714 dL_refuses_706 (by decide) (fun h => absurd h (by decide)) (fun _ => ?_)
  refine z_ldc (v := (-2000000001)) B 1 rfl dL_refuses_709 ?_
  refine z_goto B 716 dL_refuses_711 (by decide) ?_
  refine z_icmp_ne B 872 dL_refuses_716 (by decide) (fun q => absurd rfl q) (fun _ => ?_)
  refine z_loc [0, 1, 2, 3, 4, 5] (lv' := [(0, .ref (a 0)), (1, .ref (nn)), (2, .int (nI (j))), (4, .int (acc)), (8, .int (nI (j % 8))), (10, .int (nI (0)))]) rfl ?_
  exact rf_719 Hb hV hf0 hf1 j hj 0 hp acc hacc (k + 3) (n + 18) (by omega) (by omega)
set_option maxHeartbeats 4000000 in
set_option maxRecDepth 100000 in
theorem rf_694s {X : zX} {l : Launch} {D : va_G} {g : zG} {A : Nat → Prop} {a : Nat → Nat} {C : zMS} {f : Nat → Int32} {nn : Nat} (Hb : rfB X l D g A a C f nn) (hV : KV C) (hf0 : f 0 = nI (cM C)) (hf1 : f 1 = nI (cK C)) (j : Nat) (hj : j < 9973) (q : Nat) (hp : q + 1 < cP C) (acc : Int32) (hacc : ¬ rng acc 8) (k n : Nat) (hk : k + 187 ≤ 278) (hn : n + 1122 ≤ 2817) : zJ X 12 (zI1 D A (zs X)) (rfQ X D g A a C f nn) ([(nn, .inl (g.1, 3, .inl f))] ++ wC g a C (4 * cM C)) k n [(0, .ref (a 0)), (1, .ref (nn)), (2, .int (nI (j))), (4, .int (acc)), (8, .int (nI (j % 8))), (10, .int (nI (q + 1)))] 694 [] := by
  obtain ⟨hAe, hl, B, hr, hLF, hst⟩ := id Hb
  have hI := KV_I hV
  have hJ := KV_J hV
  have bP := CI_b19 hI
  have bM := CI_b20 hI
  have bK := CI_b22 hI
  have bT := CI_b0 hI
  have e1 : nN (nI (q + 1)) = q + 1 := nN_nI (by omega)
  have e2 : nN (nI (q + 1 - 1)) = q := nN_nI (by omega)
  refine z_aload_n B 0 dL_refuses_694 rfl rfl ?_
  refine z_iload B 5 dL_refuses_695 rfl ?_
  refine z_iload B 5 dL_refuses_697 rfl ?_
  refine z_iconst (v := nI 1) B dL_refuses_699 (by decide) ?_
  refine z_isubN B dL_refuses_700 (by omega) ?_
  refine z_callW (As := [.ref (a 0), .int (nI (q + 1)), .int (nI (q + 1 - 1))]) (st := [])  B hLF hl (fo_burns l D g a C hst hI (nI (q + 1)) (nI (q + 1 - 1))) gL_refuses_L_burns rfl ⟨rfl, rfl⟩ nm_L_burns ⟨by decide, by decide⟩ rfl (Nat.le_of_ble_eq_true rfl) dL_refuses_701 (by omega) (by omega) (show k + 3 ≤ 278 by omega) (show n + 18 ≤ 2817 by omega) (fun r w1 hpq => ?_)
  obtain ⟨rfl, rfl⟩ := pPost_at (o_burns_2 (rn_in hp) (rn_in (by omega)) (not_not_intro (by rw [e1, e2]; omega))) hpq
  refine z_iload B 5 dL_refuses_704 rfl ?_
  refine z_ifN_ne B 714 dL_refuses_706 (by decide) (by omega) (fun _ => ?_) (fun q => absurd q (by omega))
  refine z_ldc (v := (-2000000002)) B 2 rfl dL_refuses_714 ?_
  refine z_icmp_ne B 872 dL_refuses_716 (by decide) (fun q => absurd rfl q) (fun _ => ?_)
  refine z_loc [0, 1, 2, 3, 4, 5] (lv' := [(0, .ref (a 0)), (1, .ref (nn)), (2, .int (nI (j))), (4, .int (acc)), (8, .int (nI (j % 8))), (10, .int (nI (q + 1)))]) rfl ?_
  exact rf_719 Hb hV hf0 hf1 j hj (q + 1) hp acc hacc (k + 3) (n + 18) (by omega) (by omega)
theorem rf_694 {X : zX} {l : Launch} {D : va_G} {g : zG} {A : Nat → Prop} {a : Nat → Nat} {C : zMS} {f : Nat → Int32} {nn : Nat} (Hb : rfB X l D g A a C f nn) (hV : KV C) (hf0 : f 0 = nI (cM C)) (hf1 : f 1 = nI (cK C)) (j : Nat) (hj : j < 9973) (p : Nat) (hp : p < cP C) (acc : Int32) (hacc : ¬ rng acc 8) (k n : Nat) (hk : k + 187 ≤ 278) (hn : n + 1122 ≤ 2817) : zJ X 12 (zI1 D A (zs X)) (rfQ X D g A a C f nn) ([(nn, .inl (g.1, 3, .inl f))] ++ wC g a C (4 * cM C)) k n [(0, .ref (a 0)), (1, .ref (nn)), (2, .int (nI (j))), (4, .int (acc)), (8, .int (nI (j % 8))), (10, .int (nI (p)))] 694 [] := by
  cases p with
  | zero => exact rf_694z Hb hV hf0 hf1 j hj hp acc hacc k n (by omega) (by omega)
  | succ q => exact rf_694s Hb hV hf0 hf1 j hj q hp acc hacc k n (by omega) (by omega)
set_option maxHeartbeats 4000000 in
set_option maxRecDepth 100000 in
theorem rf_665 {X : zX} {l : Launch} {D : va_G} {g : zG} {A : Nat → Prop} {a : Nat → Nat} {C : zMS} {f : Nat → Int32} {nn : Nat} (Hb : rfB X l D g A a C f nn) (hV : KV C) (hf0 : f 0 = nI (cM C)) (hf1 : f 1 = nI (cK C)) (j : Nat) (hj : j < 9973) (acc : Int32) (hacc : ¬ rng acc 8) (k n : Nat) (hk : k + 187 ≤ 278) (hn : n + 1122 ≤ 2817) : zJ X 12 (zI1 D A (zs X)) (rfQ X D g A a C f nn) ([(nn, .inl (g.1, 3, .inl f))] ++ wC g a C (4 * cM C)) k n [(0, .ref (a 0)), (1, .ref (nn)), (2, .int (nI (j))), (4, .int (acc)), (8, .int (nI (j % 8)))] 665 [] := by
  obtain ⟨hAe, hl, B, hr, hLF, hst⟩ := id Hb
  have hI := KV_I hV
  have hJ := KV_J hV
  have bP := CI_b19 hI
  have bM := CI_b20 hI
  have bK := CI_b22 hI
  have bT := CI_b0 hI
  refine z_iconst (v := nI 1) B dL_refuses_665 (by decide) ?_
  refine z_goto B 670 dL_refuses_666 (by decide) ?_
  refine z_istore (lv1 := [(9, .int (nI (1))), (0, .ref (a 0)), (1, .ref (nn)), (2, .int (nI (j))), (4, .int (acc)), (8, .int (nI (j % 8)))]) B dL_refuses_670 (by decide) rfl ?_
  refine z_iload B 0 dL_refuses_672 rfl ?_
  refine z_if_eq B 929 dL_refuses_674 (by decide) (fun h => absurd h (by decide)) (fun _ => ?_)
  refine z_aload_n B 1 dL_refuses_677 rfl rfl ?_
  refine z_callP (As := []) (st := []) (C := RX6) (T := TX6) (N := 6) (ci := 6) (l := l) B hl (cc_X6_pages l D g a C (4 * cM C) hI) gL_refuses_X6_pages rfl ⟨rfl, rfl⟩ nm_X6_pages ⟨by decide, by decide⟩ (fun _ h => sub_r h) 0 rfl rfl rfl (Nat.le_of_ble_eq_true rfl) dL_refuses_678 (show k ≤ 278 by omega) (show n ≤ 2817 by omega) (fun r hr1 => ?_)
  obtain rfl := hr1
  refine z_ifN_le B 929 dL_refuses_681 (by decide) (by omega) (fun c681 => ?_) (fun c681 => ?_)
  · refine z_loc [1, 2, 3, 5, 0] (lv' := [(0, .ref (a 0)), (1, .ref (nn)), (2, .int (nI (j))), (8, .int (nI (j % 8))), (9, .int (nI (1)))]) rfl ?_
    exact rf_929 Hb hV hf0 hf1 j hj (k) (n) (by omega) (by omega)
  · refine z_iload_n B 3 dL_refuses_684 rfl rfl ?_
    refine z_iconst (v := nI 2) B dL_refuses_685 (by decide) ?_
    refine z_idivN B (by omega) (by omega) (by omega) dL_refuses_686 ?_
    refine z_aload_n B 1 dL_refuses_687 rfl rfl ?_
    refine z_callP (As := []) (st := [.int (nI (j / 2))]) (C := RX6) (T := TX6) (N := 6) (ci := 6) (l := l) B hl (cc_X6_pages l D g a C (4 * cM C) hI) gL_refuses_X6_pages rfl ⟨rfl, rfl⟩ nm_X6_pages ⟨by decide, by decide⟩ (fun _ h => sub_r h) 0 rfl rfl rfl (Nat.le_of_ble_eq_true rfl) dL_refuses_688 (show k ≤ 278 by omega) (show n ≤ 2817 by omega) (fun r hr1 => ?_)
    obtain rfl := hr1
    refine z_iremN B (by omega) (by omega) (by omega) dL_refuses_691 ?_
    refine z_istore (lv1 := [(10, .int (nI ((j / 2) % (cP C)))), (9, .int (nI (1))), (0, .ref (a 0)), (1, .ref (nn)), (2, .int (nI (j))), (4, .int (acc)), (8, .int (nI (j % 8)))]) B dL_refuses_692 (by decide) rfl ?_
    refine z_loc [2, 3, 4, 5, 6, 0] (lv' := [(0, .ref (a 0)), (1, .ref (nn)), (2, .int (nI (j))), (4, .int (acc)), (8, .int (nI (j % 8))), (10, .int (nI ((j / 2) % (cP C))))]) rfl ?_
    refine z_lvc (lv' := [(0, .ref (a 0)), (1, .ref (nn)), (2, .int (nI (j))), (4, .int (acc)), (8, .int (nI (j % 8))), (10, .int (nI (j / 2 % cP C)))]) (by rfl) ?_
    exact rf_694 Hb hV hf0 hf1 j hj (j / 2 % cP C) (Nat.mod_lt _ (by omega)) acc hacc (k) (n) (by omega) (by omega)
set_option maxHeartbeats 4000000 in
set_option maxRecDepth 100000 in
theorem rf_648 {X : zX} {l : Launch} {D : va_G} {g : zG} {A : Nat → Prop} {a : Nat → Nat} {C : zMS} {f : Nat → Int32} {nn : Nat} (Hb : rfB X l D g A a C f nn) (hV : KV C) (hf0 : f 0 = nI (cM C)) (hf1 : f 1 = nI (cK C)) (j : Nat) (hj : j < 9973) (acc : Int32) (hacc : ¬ rng acc 8) (k n : Nat) (hk : k + 188 ≤ 278) (hn : n + 1128 ≤ 2817) : zJ X 12 (zI1 D A (zs X)) (rfQ X D g A a C f nn) ([(nn, .inl (g.1, 3, .inl f))] ++ wC g a C (4 * cM C)) k n [(0, .ref (a 0)), (1, .ref (nn)), (2, .int (nI (j))), (4, .int (acc)), (8, .int (nI (j % 8)))] 648 [] := by
  obtain ⟨hAe, hl, B, hr, hLF, hst⟩ := id Hb
  have hI := KV_I hV
  have hJ := KV_J hV
  have bP := CI_b19 hI
  have bM := CI_b20 hI
  have bK := CI_b22 hI
  have bT := CI_b0 hI
  refine z_aload_n B 1 dL_refuses_648 rfl rfl ?_
  refine z_iconst (v := nI 1) B dL_refuses_649 (by decide) ?_
  refine z_iald (g := f) (i := 1) B 0 0 rfl rfl (by omega) (by decide) dL_refuses_650 ?_
  refine z_top (y := nI (cK C)) hf1 ?_
  refine z_bipush (v := nI 8) B dL_refuses_651 (by decide) ?_
  refine z_icmpN_lt B 665 dL_refuses_653 (by decide) (by omega) (by omega) (fun c653 => ?_) (fun c653 => ?_)
  · refine z_loc [0, 1, 2, 3, 4] (lv' := [(0, .ref (a 0)), (1, .ref (nn)), (2, .int (nI (j))), (4, .int (acc)), (8, .int (nI (j % 8)))]) rfl ?_
    exact rf_665 Hb hV hf0 hf1 j hj acc hacc (k) (n) (by omega) (by omega)
  · refine z_aload_n B 0 dL_refuses_656 rfl rfl ?_
    refine z_callW (As := [.ref (a 0)]) (st := [])  B hLF hl (fo_opens l D g a C hst hI) gL_refuses_L_opens rfl ⟨rfl, rfl⟩ nm_L_opens ⟨by decide, by decide⟩ rfl (Nat.le_of_ble_eq_true rfl) dL_refuses_657 (by omega) (by omega) (show k + 1 ≤ 278 by omega) (show n + 6 ≤ 2817 by omega) (fun r w1 hpq => ?_)
    obtain ⟨rfl, rfl⟩ := pPost_at (o_opens_0 (by omega)) hpq
    refine z_ldc (v := (-2000000003)) B 4 rfl dL_refuses_660 ?_
    refine z_icmp_ne B 669 dL_refuses_662 (by decide) (fun q => absurd rfl q) (fun _ => ?_)
    refine z_loc [0, 1, 2, 3, 4] (lv' := [(0, .ref (a 0)), (1, .ref (nn)), (2, .int (nI (j))), (4, .int (acc)), (8, .int (nI (j % 8)))]) rfl ?_
    exact rf_665 Hb hV hf0 hf1 j hj acc hacc (k + 1) (n + 6) (by omega) (by omega)
set_option maxHeartbeats 4000000 in
set_option maxRecDepth 100000 in
theorem rf_632 {X : zX} {l : Launch} {D : va_G} {g : zG} {A : Nat → Prop} {a : Nat → Nat} {C : zMS} {f : Nat → Int32} {nn : Nat} (Hb : rfB X l D g A a C f nn) (hV : KV C) (hf0 : f 0 = nI (cM C)) (hf1 : f 1 = nI (cK C)) (j : Nat) (hj : j < 9973) (acc : Int32) (hacc : ¬ rng acc 8) (k n : Nat) (hk : k + 193 ≤ 278) (hn : n + 1541 ≤ 2817) : zJ X 12 (zI1 D A (zs X)) (rfQ X D g A a C f nn) ([(nn, .inl (g.1, 3, .inl f))] ++ wC g a C (4 * cM C)) k n [(0, .ref (a 0)), (1, .ref (nn)), (2, .int (nI (j))), (4, .int (acc)), (8, .int (nI (j % 8)))] 632 [] := by
  obtain ⟨hAe, hl, B, hr, hLF, hst⟩ := id Hb
  have hI := KV_I hV
  have hJ := KV_J hV
  have bP := CI_b19 hI
  have bM := CI_b20 hI
  have bK := CI_b22 hI
  have bT := CI_b0 hI
  have hz := zcnt_le (fun p => cSt C p = 1) (cP C)
  refine z_aload_n B 0 dL_refuses_632 rfl rfl ?_
  refine z_callP (As := []) (st := []) (C := RX6) (T := TX6) (N := 6) (ci := 6) (l := l) B hl (cc_X6_gaps l D g a C (4 * cM C) hI) gL_refuses_X6_gaps rfl ⟨rfl, rfl⟩ nm_X6_gaps ⟨by decide, by decide⟩ (fun _ h => sub_r h) 0 rfl rfl rfl (Nat.le_of_ble_eq_true rfl) dL_refuses_633 (show k ≤ 278 by omega) (show n ≤ 2817 by omega) (fun r hr1 => ?_)
  obtain rfl := hr1
  refine z_ifN_eq B 648 dL_refuses_636 (by decide) (by omega) (fun c636 => ?_) (fun c636 => ?_)
  · refine z_loc [0, 1, 2, 3, 4] (lv' := [(0, .ref (a 0)), (1, .ref (nn)), (2, .int (nI (j))), (4, .int (acc)), (8, .int (nI (j % 8)))]) rfl ?_
    exact rf_648 Hb hV hf0 hf1 j hj acc hacc (k) (n) (by omega) (by omega)
  · refine z_aload_n B 0 dL_refuses_639 rfl rfl ?_
    refine z_callW (As := [.ref (a 0)]) (st := [])  B hLF hl (fo_copies_n l D g a C hst hI hJ (fun z => by omega)) gL_refuses_L_copies rfl ⟨rfl, rfl⟩ nm_L_copies ⟨by decide, by decide⟩ rfl (Nat.le_of_ble_eq_true rfl) dL_refuses_640 (by omega) (by omega) (show k + 5 ≤ 278 by omega) (show n + 413 ≤ 2817 by omega) (fun r w1 hpq => ?_)
    obtain ⟨rfl, rfl⟩ := hpq
    refine z_ldc (v := (-2000000003)) B 4 rfl dL_refuses_643 ?_
    refine z_icmp_ne B 669 dL_refuses_645 (by decide) (fun q => absurd rfl q) (fun _ => ?_)
    refine z_loc [0, 1, 2, 3, 4] (lv' := [(0, .ref (a 0)), (1, .ref (nn)), (2, .int (nI (j))), (4, .int (acc)), (8, .int (nI (j % 8)))]) rfl ?_
    exact rf_648 Hb hV hf0 hf1 j hj acc hacc (k + 5) (n + 413) (by omega) (by omega)
