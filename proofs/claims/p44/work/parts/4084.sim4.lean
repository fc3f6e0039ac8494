/-! copies made -/
theorem cpL_v (M : zMS) (c q : Nat) : ∀ {i l : Nat}, l < i → cpL M c q i 22 (4 * (80 * c + q) + l) = M 11 (4 * q + l)
  | 0, _, h => absurd h (Nat.not_lt_zero _)
  | i + 1, l, h => by
    rw [cpL, up2_a]
    by_cases e : l = i
    · subst e; rw [if_pos rfl]
    · rw [if_neg (by omega)]; exact cpL_v M c q (by omega)
theorem cpL_o (M : zMS) (c q : Nat) {x : Nat} : ∀ {i : Nat}, (x < 4 * (80 * c + q) ∨ 4 * (80 * c + q) + i ≤ x) → cpL M c q i 22 x = M 22 x
  | 0, _ => rfl
  | i + 1, h => by rw [cpL, up2_i (by omega), cpL_o M c q (by omega)]
theorem cpN_21 (M : zMS) (c a : Nat) : ∀ {i q : Nat}, q < i → cpN M c a i 21 (80 * c + (a + q)) = bI (M 12 (a + q) = 0)
  | 0, _, h => absurd h (Nat.not_lt_zero _)
  | i + 1, q, h => by
    rw [cpN, cpL_k _ _ _ (by omega), cpH, up2_a, cpN_k _ _ _ (by omega)]
    by_cases e : q = i
    · subst e; rw [if_pos rfl]
    · rw [if_neg (by omega)]; exact cpN_21 M c a (by omega)
theorem cpN_21o (M : zMS) (c a : Nat) {x : Nat} : ∀ {i : Nat}, (x < 80 * c + a ∨ 80 * c + a + i ≤ x) → cpN M c a i 21 x = M 21 x
  | 0, _ => rfl
  | i + 1, h => by rw [cpN, cpL_k _ _ _ (by omega), cpH, up2_i (by omega), cpN_21o M c a (by omega)]
theorem cpN_22 (M : zMS) (c a : Nat) : ∀ {i q l : Nat}, q < i → l < 4 → cpN M c a i 22 (4 * (80 * c + (a + q)) + l) = M 11 (4 * (a + q) + l)
  | 0, _, _, h, _ => absurd h (Nat.not_lt_zero _)
  | i + 1, q, l, h, hl => by
    rw [cpN]
    by_cases e : q = i
    · subst e; rw [cpL_v _ _ _ hl, cpH, up2_k (by omega), cpN_k _ _ _ (by omega)]
    · rw [cpL_o _ _ _ (by omega), cpH, up2_k (by omega)]; exact cpN_22 M c a (by omega) hl
theorem cpN_22o (M : zMS) (c a : Nat) {x : Nat} : ∀ {i : Nat}, x < 4 * (80 * c + a) → cpN M c a i 22 x = M 22 x
  | 0, _ => rfl
  | i + 1, h => by rw [cpN, cpL_o _ _ _ (by omega), cpH, up2_k (by omega), cpN_22o M c a h]
theorem tkL_v {C : zMS} {r r2 j : Nat} (hr : r2 ≠ r) : ∀ {i l : Nat}, l < i → tkL C r r2 j i r (j * 4 + l) = C r2 (j * 4 + l)
  | 0, _, h => absurd h (Nat.not_lt_zero _)
  | i + 1, l, h => by
    rw [tkL, up2_a]
    by_cases e : l = i
    · subst e; rw [if_pos rfl]
    · rw [if_neg (by omega)]; exact tkL_v hr (by omega)
theorem tkL_o {C : zMS} {r r2 j q : Nat} : ∀ {i : Nat}, (q < j * 4 ∨ j * 4 + i ≤ q) → tkL C r r2 j i r q = C r q
  | 0, _ => rfl
  | i + 1, h => by rw [tkL, up2_i (by omega), tkL_o (by omega)]
theorem tkC_f {C : zMS} {f r f2 r2 j : Nat} (hf : f ≠ r) : tkC C f r f2 r2 j f j = C f2 j := by unfold tkC; rw [tkL_k _ _ _ _ hf, up2_s]
theorem tkC_fo {C : zMS} {f r f2 r2 j q : Nat} (hf : f ≠ r) (hq : q ≠ j) : tkC C f r f2 r2 j f q = C f q := by unfold tkC; rw [tkL_k _ _ _ _ hf, up2_i hq]
theorem tkC_v {C : zMS} {f r f2 r2 j l : Nat} (h1 : r2 ≠ r) (h2 : r2 ≠ f) (hl : l < 4) : tkC C f r f2 r2 j r (j * 4 + l) = C r2 (j * 4 + l) := by unfold tkC; rw [tkL_v h1 hl, up2_k h2]
theorem tkC_o {C : zMS} {f r f2 r2 j q : Nat} (hf : f ≠ r) (hq : q < j * 4 ∨ j * 4 + 4 ≤ q) : tkC C f r f2 r2 j r q = C r q := by unfold tkC; rw [tkL_o hq, up2_k hf.symm]
theorem mkN_a {C : zMS} {k f : Nat} : ∀ {i q : Nat}, q < i → mkN C k f i (44 + 8 * k) (f + q) = C 17 (f + q)
  | 0, _, h => absurd h (Nat.not_lt_zero _)
  | i + 1, q, h => by
    rw [mkN]
    by_cases e : q = i
    · subst e; rw [tkC_f (by omega), mkN_k _ _ _ (by omega)]
    · rw [tkC_fo (by omega) (by omega)]; exact mkN_a (by omega)
theorem mkN_b {C : zMS} {k f q : Nat} : ∀ {i : Nat}, (q < f ∨ f + i ≤ q) → mkN C k f i (44 + 8 * k) q = C (44 + 8 * k) q
  | 0, _ => rfl
  | i + 1, h => by rw [mkN, tkC_fo (by omega) (by omega), mkN_b (by omega)]
theorem mkN_c {C : zMS} {k f : Nat} : ∀ {i q l : Nat}, q < i → l < 4 → mkN C k f i (45 + 8 * k) ((f + q) * 4 + l) = C 18 ((f + q) * 4 + l)
  | 0, _, _, h, _ => absurd h (Nat.not_lt_zero _)
  | i + 1, q, l, h, hl => by
    rw [mkN]
    by_cases e : q = i
    · subst e; rw [tkC_v (by omega) (by omega) hl, mkN_k _ _ _ (by omega)]
    · rw [tkC_o (by omega) (by omega)]; exact mkN_c (by omega) hl
theorem MI_cpL {M : zMS} {c q : Nat} (h : MI M) : ∀ {i : Nat}, MI (cpL M c q i)
  | 0 => h
  | i + 1 => MI_r (MI_cpL h) (by omega)
theorem MI_cpN {M : zMS} {c a : Nat} (h : MI M) : ∀ {i : Nat}, MI (cpN M c a i)
  | 0 => h
  | i + 1 => MI_cpL (MI_ub (MI_cpN h) (by omega) (bI_or _))
theorem MI_mc {M : zMS} {b : Int32} {f : Nat} (h : MI M) (hK : mC M < 16) (hf : f ≤ 80) : MI (mcM M b f) :=
  MI_s (MI_cpN (MI_ub (MI_ub (MI_a (MI_a (MI_r h (by omega)) (by omega)) (by have := MI_b5 h; omega)) (by omega) (Or.inl rfl)) (by omega) (Or.inl rfl))) (by omega)
theorem INV_copy {M C : zMS} {b : Int32} {f : Nat} (h : INV M C) (hK : mC M < 16) (hf : f ≤ mP M) (hb : b = -1 ∨ ∃ d, d < mC M ∧ b = nI d ∧ M 19 d = 0) : INV (mcM M b f) (mkC C b f) := by
  obtain ⟨c1, c2, c3, c4⟩ := n12
  have eM := i_M h
  have eP := i_P h
  have bP := MI_b5 h.1
  obtain ⟨hI, hC, hs, hpg, hnw, hby, hcp, hct, hdy, hba⟩ := h
  unfold mkC
  rw [eM, eP]
  have fM : ∀ g, g < 15 ∨ 22 < g → mcM M b f g = M g := fun g hg => by
    unfold mcM mc0
    rw [up2_k (by omega), cpN_k _ _ _ (by omega), up2_k (by omega), up2_k (by omega), up2_k (by omega), up2_k (by omega), up2_k (by omega)]
  have e15 : mcM M b f 15 0 = nI (mC M + 1) := by unfold mcM; rw [up2_s]
  have m0 : ∀ g, g = 21 ∨ g = 22 ∨ g = 12 ∨ g = 11 → mc0 M b f g = M g := fun g hg => by
    unfold mc0; rw [up2_k (by omega), up2_k (by omega), up2_k (by omega), up2_k (by omega), up2_k (by omega)]
  have gM : ∀ g, g = 16 ∨ g = 17 ∨ g = 18 ∨ g = 19 ∨ g = 20 → ∀ k, k ≠ mC M → mcM M b f g k = M g k := fun g hg k hk => by
    unfold mcM
    rw [up2_k (by omega), cpN_k _ _ _ (by omega)]
    unfold mc0
    rcases hg with rfl | rfl | rfl | rfl | rfl
    · rw [up2_k (by omega), up2_k (by omega), up2_k (by omega), up2_k (by omega), up2_i hk]
    · rw [up2_k (by omega), up2_k (by omega), up2_k (by omega), up2_i hk, up2_k (by omega)]
    · rw [up2_k (by omega), up2_k (by omega), up2_i hk, up2_k (by omega), up2_k (by omega)]
    · rw [up2_k (by omega), up2_i hk, up2_k (by omega), up2_k (by omega), up2_k (by omega)]
    · rw [up2_i hk, up2_k (by omega), up2_k (by omega), up2_k (by omega), up2_k (by omega)]
  have e16 : mcM M b f 16 (mC M) = b := by
    unfold mcM; rw [up2_k (by omega), cpN_k _ _ _ (by omega)]; unfold mc0
    rw [up2_k (by omega), up2_k (by omega), up2_k (by omega), up2_k (by omega), up2_s]
  have e17 : mcM M b f 17 (mC M) = nI f := by
    unfold mcM; rw [up2_k (by omega), cpN_k _ _ _ (by omega)]; unfold mc0
    rw [up2_k (by omega), up2_k (by omega), up2_k (by omega), up2_s]
  have e18 : mcM M b f 18 (mC M) = nI (mP M) := by
    unfold mcM; rw [up2_k (by omega), cpN_k _ _ _ (by omega)]; unfold mc0
    rw [up2_k (by omega), up2_k (by omega), up2_s]
  have e19 : mcM M b f 19 (mC M) = 0 := by
    unfold mcM; rw [up2_k (by omega), cpN_k _ _ _ (by omega)]; unfold mc0
    rw [up2_k (by omega), up2_s]; rfl
  have e20 : mcM M b f 20 (mC M) = 0 := by
    unfold mcM; rw [up2_k (by omega), cpN_k _ _ _ (by omega)]; unfold mc0
    rw [up2_s]; rfl
  have eC : mC (mcM M b f) = mC M + 1 := by
    have q : nN (mcM M b f 15 0) = mC M + 1 := by rw [e15, nN_nI (by omega)]
    exact q
  have eMP : mP (mcM M b f) = mP M := mP_f (fM 5 (by omega))
  have fC : ∀ g, (g < 28 ∧ g ≠ 20) ∨ (28 < g ∧ (g < 40 + 8 * mC M ∨ 46 + 8 * mC M ≤ g)) → up2 (up2 (mkN (nwC C (mC M) b f) (mC M) f (mP M - f)) 28 (mC M) (nI 1)) 20 0 (nI (mC M + 1)) g = C g := fun g hg => by
    rw [up2_k (by omega), up2_k (by omega), mkN_k _ _ _ (by omega), nwC_k (by omega)]
  have kC : ∀ g, 28 < g → up2 (up2 (mkN (nwC C (mC M) b f) (mC M) f (mP M - f)) 28 (mC M) (nI 1)) 20 0 (nI (mC M + 1)) g = mkN (nwC C (mC M) b f) (mC M) f (mP M - f) g := fun g hg => by
    rw [up2_k (by omega), up2_k (by omega)]
  have e28 : up2 (up2 (mkN (nwC C (mC M) b f) (mC M) f (mP M - f)) 28 (mC M) (nI 1)) 20 0 (nI (mC M + 1)) 28 = upd (C 28) (mC M) (nI 1) := by
    rw [up2_k (by omega)]
    have : mkN (nwC C (mC M) b f) (mC M) f (mP M - f) 28 = C 28 := by rw [mkN_k _ _ _ (by omega), nwC_k (by omega)]
    rw [← this]; simp [up2]
  refine ⟨MI_mc hI hK (by omega), CI_28s (CI_mkN (CI_nwC hC (by omega)) _) ?_ hK, ?_, fun p hp => ?_, fun p hp => ?_, ?_, fun k hk => ?_, ?_, ?_, ?_⟩
  · unfold cM; rw [mkN_k _ _ _ (by omega), nwC_k (by omega)]; exact eM
  · obtain ⟨s1, s2, s3, s4, s5, s6, s7⟩ := hs
    have ed : mD (mcM M b f) = mD M := by unfold mD; rw [fM 2 (by omega)]
    unfold RSc
    rw [ed, fM 1 (by omega), fM 2 (by omega), fM 3 (by omega), fM 4 (by omega), fM 5 (by omega), fM 23 (by omega), fM 25 (by omega), fC 0 (by omega), fC 1 (by omega), fC 2 (by omega), fC 3 (by omega), fC 19 (by omega), fC 22 (by omega), fC 27 (by omega), e15]
    exact ⟨s1, s2, s3, by rw [up2_s], s5, s6, s7⟩
  · exact RPg_f hI (fun g hg => fM g (by omega)) (fun g hg => fC g (by omega)) (hpg p (eMP ▸ hp))
  · exact RNw_f hI (fun g hg => fM g (by omega)) (fun g hg => fC g (by omega)) (hnw p (eMP ▸ hp))
  · exact RBy_f (fun g hg => fM g (by omega)) (fun g hg => fC g (by omega)) hby
  · rw [eC] at hk
    by_cases e : k = mC M
    · subst e
      have hHas : ∀ p, pHas (mcM M b f) (mC M) p ↔ f ≤ p ∧ p < mP M := fun p => by
        unfold pHas mF mE; rw [e17, e18, nN_nI (by omega), nN_nI (by omega)]
      refine ⟨by rw [e16, kC _ (by omega), mkN_k _ _ _ (by omega), nwC_0], by rw [e17, kC _ (by omega), mkN_k _ _ _ (by omega), nwC_1], by rw [e18, kC _ (by omega), mkN_k _ _ _ (by omega), nwC_2, eP], ?_, ?_, fun _ p hp => ⟨fun q => ?_, fun q => ?_⟩⟩
      · rw [e28, e19]; exact Or.inl ⟨by unfold upd; rw [if_pos rfl]; rfl, rfl⟩
      · rw [e20, kC _ (by omega), mkN_k _ _ _ (by omega), nwC_3]; exact Or.inl ⟨rfl, rfl⟩
      · have q2 := (hHas p).mp q
        obtain ⟨d, rfl⟩ : ∃ d, p = f + d := ⟨p - f, by omega⟩
        have hL : mL (mcM M b f) (f + d) = mL M (f + d) := by unfold mL; rw [fM 8 (by omega)]
        have bL := MI_b8 hI (f + d)
        have x21 : mcM M b f 21 (80 * mC M + (f + d)) = bI (M 12 (f + d) = 0) := by
          unfold mcM; rw [up2_k (by omega), cpN_21 _ _ _ (by omega), m0 12 (by omega)]
        have x22 : ∀ l, l < 4 → mcM M b f 22 (4 * (80 * mC M + (f + d)) + l) = M 11 (4 * (f + d) + l) := fun l hl => by
          unfold mcM; rw [up2_k (by omega), cpN_22 _ _ _ (by omega) hl, m0 11 (by omega)]
        have y44 : up2 (up2 (mkN (nwC C (mC M) b f) (mC M) f (mP M - f)) 28 (mC M) (nI 1)) 20 0 (nI (mC M + 1)) (44 + 8 * mC M) (f + d) = C 17 (f + d) := by
          rw [kC _ (by omega), mkN_a (by omega), nwC_k (by omega)]
        have y45 : ∀ l, l < 4 → up2 (up2 (mkN (nwC C (mC M) b f) (mC M) f (mP M - f)) 28 (mC M) (nI 1)) 20 0 (nI (mC M + 1)) (45 + 8 * mC M) ((f + d) * 4 + l) = C 18 ((f + d) * 4 + l) := fun l hl => by
          rw [kC _ (by omega), mkN_c (by omega) hl, nwC_k (by omega)]
        rw [x21, y44, hL]
        rcases hnw (f + d) q2.2 with ⟨h1, h2, h3, h4, h5⟩ | ⟨h1, h2, h3, h4⟩ | ⟨h1, h2, h3, h4⟩
        · refine Or.inr ⟨bI_t h1, h3, fun l hl => ?_, fun l ha hl => ?_⟩
          · rw [y45 l (by omega), x22 l (by omega)]; exact h4 l hl
          · rw [y45 l hl]; exact h5 l ha hl
        · exact Or.inl ⟨bI_f (by rw [h1]; exact c1), h3, fun l hl => by rw [y45 l hl]; exact h4 l hl⟩
        · exact Or.inl ⟨bI_f (by rw [h1]; exact c2), h3, fun l hl => by rw [y45 l hl]; exact h4 l hl⟩
      · have q2 : ¬ (f ≤ p ∧ p < mP M) := fun r => q ((hHas p).mpr r)
        rw [kC _ (by omega), mkN_b (by omega), nwC_4]; rfl
    · have hk2 : k < mC M := by omega
      have u28 : upd (C 28) (mC M) (nI 1) k = C 28 k := by unfold upd; rw [if_neg e]
      refine RCp_cg hI (gM 16 (by omega) k e) (gM 17 (by omega) k e) (gM 18 (by omega) k e) (gM 19 (by omega) k e) (gM 20 (by omega) k e) (by rw [e28, u28]) (fun g hg => by rw [fC _ (by omega)]) (fun _ p hp => RSh_cg hI (fun _ => by rw [fM 8 (by omega)]) (gM 17 (by omega) k e) (gM 18 (by omega) k e) (fun _ => ?_) (fun _ l hl => ?_) (by rw [fC _ (by omega)]) (fun _ l _ => by rw [fC _ (by omega)])) (hcp k hk2)
      · unfold mcM; rw [up2_k (by omega), cpN_21o _ _ _ (by omega), m0 21 (by omega)]
      · unfold mcM; rw [up2_k (by omega), cpN_22o _ _ _ (by omega), m0 22 (by omega)]
  · exact RCt_f (fun g h1 h2 => fM g (by omega)) (fun g h1 h2 => fC g (by omega)) hct
  · exact RDy_f (fun g hg => fM g (by omega)) hdy
  · obtain ⟨a1, a2⟩ := hba
    refine ⟨fun k hk => ?_, fun k hk => ?_⟩
    · rw [eC] at hk
      by_cases e : k = mC M
      · subst e
        rw [e16]
        rcases hb with hb | ⟨d, hd, hb, hd19⟩
        · exact Or.inl hb
        · exact Or.inr ⟨d, hd, hb, fun _ => by rw [gM 19 (by omega) d (by omega)]; exact hd19⟩
      · rw [gM 16 (by omega) k e, gM 19 (by omega) k e]
        rcases a1 k (by omega) with hb | ⟨d, hd, hb, hd19⟩
        · exact Or.inl hb
        · exact Or.inr ⟨d, hd, hb, fun r => by rw [gM 19 (by omega) d (by omega)]; exact hd19 r⟩
    · rw [eC] at hk
      rw [eMP]
      unfold mF mE
      by_cases e : k = mC M
      · subst e; rw [e17, e18, nN_nI (by omega), nN_nI (by omega)]; exact ⟨hf, Nat.le_refl _⟩
      · rw [gM 17 (by omega) k e, gM 18 (by omega) k e]; exact a2 k (by omega)
/-! restoring -/
theorem rsL_v {M : zMS} {p : Nat} : ∀ {i l : Nat}, l < i → rsL M p i 11 (4 * p + l) = M 10 (4 * p + l)
  | 0, _, h => absurd h (Nat.not_lt_zero _)
  | i + 1, l, h => by
    rw [rsL, up2_a]
    by_cases e : l = i
    · subst e; rw [if_pos rfl]
    · rw [if_neg (by omega)]; exact rsL_v (by omega)
theorem rsL_o {M : zMS} {p q : Nat} : ∀ {i : Nat}, (q < 4 * p ∨ 4 * p + i ≤ q) → rsL M p i 11 q = M 11 q
  | 0, _ => rfl
  | i + 1, h => by rw [rsL, up2_i (by omega), rsL_o (by omega)]
theorem MI_rsL {M : zMS} {p : Nat} (h : MI M) : ∀ {i : Nat}, MI (rsL M p i)
  | 0 => h
  | i + 1 => MI_r (MI_rsL h) (by omega)
theorem INV_rs1 {M C : zMS} {c p : Nat} (h : INV M C) (hc : c < mC M) (h19 : M 19 c = 0) (hp : p < mP M) (h2 : ¬ M 12 p = nI 2) (hT : pTI M c p) : INV (rsL (up2 M 12 p (nI 0)) p 4) (tkC C 17 18 (44 + 8 * c) (45 + 8 * c) p) := by
  have bP := MI_b5 h.1
  have bL := MI_b8 h.1 p
  obtain ⟨⟨hH, h21⟩, ham⟩ := hT
  refine INV_nw h (fun f h1 h2 => by rw [rsL_k _ _ h1, up2_k h2]) (fun f h1 h2 h3 => tkC_k ⟨h2, h3⟩) (MI_rsL (MI_r h.1 (by omega))) (CI_tkC h.2.1 (Or.inl rfl) (Or.inl rfl) (CI_z44 h.2.1 c p)) (fun q hq => ?_) (fun q h3 h4 => ⟨by rw [tkC_k (by omega)], fun l hl => tkC_o (by omega) (by omega)⟩)
  by_cases e : q = p
  · subst e
    have h14 : C 14 q = 0 := Classical.byContradiction (fun r => h2 ((i_St2 h hq).mp r))
    rcases ((i_cp h hc).2.2.2.2.2 h19 q (by omega)).1 hH with ⟨s1, -⟩ | ⟨s1, s2, s3, s4⟩
    · exact absurd s1 h21
    · refine Or.inl ⟨by rw [rsL_k _ _ (by omega), up2_s]; rfl, by rw [tkC_k (by omega)]; exact h14, by rw [tkC_f (by omega)]; exact s2, fun l hl => ?_, fun l h5 h6 => ?_⟩
      · have hl' : l < mL M q := by
          have : mL (rsL (up2 M 12 q (nI 0)) q 4) q = mL M q := by unfold mL; rw [rsL_k _ _ (by omega), up2_k (by omega)]
          omega
        rw [tkC_v (by omega) (by omega) (by omega), rsL_v (by omega), s3 l hl', ham l hl']; rfl
      · have h5' : mL M q ≤ l := by
          have : mL (rsL (up2 M 12 q (nI 0)) q 4) q = mL M q := by unfold mL; rw [rsL_k _ _ (by omega), up2_k (by omega)]
          omega
        rw [tkC_v (by omega) (by omega) h6]; exact s4 l h5' h6
  · exact RNw_cg h.1 (by rw [rsL_k _ _ (by omega), up2_k (by omega)]) (by rw [rsL_k _ _ (by omega), up2_i e]) (fun l hl => by rw [rsL_o (by omega), up2_k (by omega)]) (by rw [tkC_k (by omega)]) (tkC_fo (by omega) e) (fun l hl => tkC_o (by omega) (by omega)) (i_nw h hq)
theorem INV_rsN {M C : zMS} {c : Nat} (h : INV M C) (hc : c < mC M) (h19 : M 19 c = 0) : ∀ {i : Nat}, i ≤ mP M → INV (rsN M c i) (gbN C c (min i (mE M c) - mF M c)) ∧ gbK C c (min i (mE M c) - mF M c) = rsK M c i
  | 0, _ => by
    rw [Nat.zero_min, Nat.zero_sub]; exact ⟨h, rfl⟩
  | i + 1, hi => by
    obtain ⟨h1, h2⟩ := INV_rsN h hc h19 (i := i) (by omega)
    have hFE := h.2.2.2.2.2.2.2.2.2.2 c hc
    have eF := i_F h hc
    have eP : mP (rsN M c i) = mP M := mP_f (rsN_k M c (by omega) i)
    have eC : mC (rsN M c i) = mC M := mC_f (rsN_k M c (by omega) i)
    have e19 : rsN M c i 19 c = 0 := by rw [rsN_k M c (by omega)]; exact h19
    by_cases q : mF M c ≤ i ∧ i < mE M c
    · have e1 : min (i + 1) (mE M c) - mF M c = (min i (mE M c) - mF M c) + 1 := by omega
      have e2 : cF C c + (min i (mE M c) - mF M c) = i := by rw [eF]; omega
      have hi' : i < mP (rsN M c i) := by rw [eP]; omega
      have f2 := i_St2 h1 hi'
      have ft := i_TB h1 hi'
      have fk := i_TK h1 (k := c) (by rw [eC]; exact hc) e19 hi'
      have key : gbC (gbN C c (min i (mE M c) - mF M c)) c (cF C c + (min i (mE M c) - mF M c)) ↔ rsC (rsN M c i) c i := by
        rw [e2]; unfold gbC rsC
        rw [ft, fk]
        exact ⟨fun r => ⟨fun s => (f2.mpr s) r.1, r.2⟩, fun r => ⟨Classical.byContradiction (fun s => r.1 (f2.mp s)), r.2⟩⟩
      rw [e1]
      by_cases t : rsC (rsN M c i) c i
      · rw [← gbN_y (key.mpr t), ← gbK_y (key.mpr t), rsN, rsK, rs1_y t, ifN_t t, e2, h2]
        exact ⟨INV_rs1 h1 (by rw [eC]; exact hc) e19 hi' t.1 t.2.2, rfl⟩
      · rw [← gbN_n (fun r => t (key.mp r)), ← gbK_n (fun r => t (key.mp r)), rsN, rsK, rs1_n t, ifN_f t]
        exact ⟨h1, h2⟩
    · have e1 : min (i + 1) (mE M c) - mF M c = min i (mE M c) - mF M c := by omega
      have nt : ¬ rsC (rsN M c i) c i := fun r => q (by
        have := r.2.2.1.1
        unfold pHas mF mE at this
        rw [rsN_k M c (by omega), rsN_k M c (by omega)] at this
        exact this)
      rw [e1, rsN, rsK, rs1_n nt, ifN_f nt]
      exact ⟨h1, h2⟩
theorem INV_rsA {np : Nat} : ∀ {L : List Nat} {M C : zMS}, INV M C → mP M = np → (∀ c, c ∈ L → c < mC M ∧ M 19 c = 0) → INV (rsA np L M) (gbA L C) ∧ gbB L C = rsB np L M
  | [], M, C, h, _, _ => ⟨h, rfl⟩
  | c :: L, M, C, h, hp, hL => by
    obtain ⟨hc, h19⟩ := hL c List.mem_cons_self
    have hFE := h.2.2.2.2.2.2.2.2.2.2 c hc
    obtain ⟨h1, h2⟩ := INV_rsN h hc h19 (i := mP M) (Nat.le_refl _)
    have em : min (mP M) (mE M c) - mF M c = cE C c - cF C c := by rw [i_E h hc, i_F h hc]; omega
    rw [em, hp] at h1 h2
    have eC : mC (rsN M c np) = mC M := mC_f (rsN_k M c (by omega) np)
    have hp1 : mP (rsN M c np) = np := by rw [mP_f (rsN_k M c (by omega) np)]; exact hp
    obtain ⟨h3, h4⟩ := INV_rsA (np := np) (L := L) h1 hp1 (fun d hd => by rw [eC, rsN_k M c (by omega)]; exact hL d (List.mem_cons_of_mem _ hd))
    exact ⟨h3, by rw [gbB, rsB, h2, h4]⟩
