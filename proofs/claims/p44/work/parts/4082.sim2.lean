/-! a page appended to both -/
theorem ptN_v (M : zMS) (p : Nat) (f r : Nat → Int32) : ∀ {i l : Nat}, l < i → ptN M p f r i 9 (4 * p + l) = f l ∧ ptN M p f r i 10 (4 * p + l) = r l ∧ ptN M p f r i 11 (4 * p + l) = r l
  | 0, _, h => absurd h (Nat.not_lt_zero _)
  | i + 1, l, h => by
    rw [ptN, ptM, up2_k (show 9 ≠ 8 by omega), up2_k (show 10 ≠ 8 by omega), up2_k (show 11 ≠ 8 by omega), up2_k (show 9 ≠ 11 by omega), up2_k (show 9 ≠ 10 by omega), up2_k (show 10 ≠ 11 by omega)]
    rw [up2_a, up2_a, up2_a, up2_k (show 10 ≠ 9 by omega), up2_k (show 11 ≠ 10 by omega), up2_k (show 11 ≠ 9 by omega)]
    by_cases q : l = i
    · subst q; rw [if_pos rfl, if_pos rfl, if_pos rfl]; exact ⟨rfl, rfl, rfl⟩
    · rw [if_neg (by omega), if_neg (by omega), if_neg (by omega)]; exact ptN_v M p f r (by omega)
theorem bgM_k {M : zMS} {x : Int32} {f : Nat} (h : f ≠ 5 ∧ f ≠ 6 ∧ f ≠ 7 ∧ f ≠ 8 ∧ f ≠ 12 ∧ f ≠ 13) : bgM M x f = M f := by
  unfold bgM; rw [up2_k (by omega), up2_k (by omega), up2_k (by omega), up2_k (by omega), up2_k (by omega), up2_k (by omega)]
theorem MI_bg {M : zMS} {x : Int32} (h : MI M) (hp : mP M < 80) : MI (bgM M x) :=
  MI_s (MI_r (MI_r (MI_a (MI_r (MI_r h (by omega)) (by omega)) (by omega)) (by omega)) (by omega)) (by omega)
theorem MI_ptN {M : zMS} {p : Nat} {f r : Nat → Int32} (h : MI M) : ∀ {i : Nat}, i ≤ 4 → MI (ptN M p f r i)
  | 0, _ => h
  | i + 1, hi => MI_a (MI_r (MI_r (MI_r (MI_ptN h (by omega)) (by omega)) (by omega)) (by omega)) (by omega)
theorem acL_v {C : zMS} {ka p : Nat} (hk : ka ≠ 11) : ∀ {i l : Nat}, l < i → acL C ka p i 11 (p * 4 + l) = C ka l
  | 0, _, h => absurd h (Nat.not_lt_zero _)
  | i + 1, l, h => by
    rw [acL, up2_a]
    by_cases q : l = i
    · subst q; rw [if_pos rfl]
    · rw [if_neg (by omega)]; exact acL_v hk (by omega)
theorem acL_o {C : zMS} {ka p q : Nat} (hq : q < p * 4) : ∀ {i : Nat}, acL C ka p i 11 q = C 11 q
  | 0 => rfl
  | i + 1 => by rw [acL, up2_i (by omega), acL_o hq]
theorem flL_v {C : zMS} {r km j : Nat} (hk : km ≠ r) : ∀ {i l : Nat}, l < i → flL C r km j i r (j * 4 + l) = C km l
  | 0, _, h => absurd h (Nat.not_lt_zero _)
  | i + 1, l, h => by
    rw [flL, up2_a]
    by_cases q : l = i
    · subst q; rw [if_pos rfl]
    · rw [if_neg (by omega)]; exact flL_v hk (by omega)
theorem flL_o {C : zMS} {r km j q : Nat} : ∀ {i : Nat}, (q < j * 4 ∨ j * 4 + i ≤ q) → flL C r km j i r q = C r q
  | 0, _ => rfl
  | i + 1, h => by rw [flL, up2_i (by omega), flL_o (by omega)]
theorem flC_f {C : zMS} {f r km n j : Nat} (hf : f ≠ r) : flC C f r km n j f j = 1 := by
  unfold flC; rw [flL_k _ _ _ _ hf, up2_s]; rfl
theorem flC_fo {C : zMS} {f r km n j q : Nat} (hf : f ≠ r) (hq : q ≠ j) : flC C f r km n j f q = C f q := by
  unfold flC; rw [flL_k _ _ _ _ hf, up2_i hq]
theorem flC_v {C : zMS} {f r km n j l : Nat} (hk : km ≠ r ∧ km ≠ f) (hl : l < n) : flC C f r km n j r (j * 4 + l) = C km l := by
  unfold flC; rw [flL_v hk.1 hl, up2_k hk.2]
theorem flC_o {C : zMS} {f r km n j q : Nat} (hf : f ≠ r) (hq : q < j * 4 ∨ j * 4 + n ≤ q) : flC C f r km n j r q = C r q := by
  unfold flC; rw [flL_o hq, up2_k hf.symm]
theorem CI_acL {C : zMS} {ka p : Nat} (h : CI C) : ∀ {i : Nat}, CI (acL C ka p i)
  | 0 => h
  | i + 1 => CI_r (CI_acL h) (by omega)
theorem CI_flL {C : zMS} {r km j : Nat} (h : CI C) (hr : r = 16 ∨ r = 18) : ∀ {i : Nat}, CI (flL C r km j i)
  | 0 => h
  | i + 1 => CI_r (CI_flL h hr) (by omega)
theorem CI_ap {C : zMS} {p ka km n : Nat} {x y : Int32} (h : CI C) (hp : p < 80) (hn : n ≤ 4) : CI (apC C p ka km n x y) := by
  have h1 : CI (ap1 C p ka km n x y) := CI_a10 (CI_r (CI_r (CI_r h (by omega)) (by omega)) (by omega)) hn
  have h2 : CI (ap2 C p ka km n x y) := CI_r (CI_acL h1) (by omega)
  have h3 : CI (flC (ap2 C p ka km n x y) 15 16 km n p) := CI_flL (CI_z h2 (by omega) (Or.inr rfl)) (Or.inl rfl)
  have h4 : CI (flC (flC (ap2 C p ka km n x y) 15 16 km n p) 17 18 km n p) := CI_flL (CI_z h3 (by omega) (Or.inr rfl)) (Or.inr rfl)
  exact CI_s h4 (by omega)
section
variable {C : zMS} {p ka km n q l : Nat} {x y : Int32}
theorem ap_1 {f : Nat} (hf : 7 ≤ f ∧ f ≤ 10) : apC C p ka km n x y f = ap1 C p ka km n x y f := by
  rw [apC, up2_k (by omega), flC_k ⟨by omega, by omega⟩, flC_k ⟨by omega, by omega⟩, ap2, up2_k (by omega), acL_k _ _ _ (by omega)]
theorem ap_o {f : Nat} (hf : 7 ≤ f ∧ f ≤ 10) (hq : q ≠ p) : apC C p ka km n x y f q = C f q := by
  rw [ap_1 hf, ap1]
  by_cases h10 : f = 10
  · subst h10; rw [up2_i hq, up2_k (by omega), up2_k (by omega), up2_k (by omega)]
  · rw [up2_k h10]
    by_cases h9 : f = 9
    · subst h9; rw [up2_i hq, up2_k (by omega), up2_k (by omega)]
    · rw [up2_k h9]
      by_cases h8 : f = 8
      · subst h8; rw [up2_i hq, up2_k (by omega)]
      · rw [up2_k h8, show f = 7 by omega, up2_i hq]
theorem ap_7 : apC C p ka km n x y 7 p = y := by rw [ap_1 (by omega), ap1, up2_k (by omega), up2_k (by omega), up2_k (by omega), up2_s]
theorem ap_8 : apC C p ka km n x y 8 p = x := by rw [ap_1 (by omega), ap1, up2_k (by omega), up2_k (by omega), up2_s]
theorem ap_9 : apC C p ka km n x y 9 p = fMk (C ka) (C km) (nMk (nMk (nI 1) y) x) n := by rw [ap_1 (by omega), ap1, up2_k (by omega), up2_s]
theorem ap_10 : apC C p ka km n x y 10 p = nI n := by rw [ap_1 (by omega)]; exact up2_s
theorem ap_11v (hk : ka < 7) (hl : l < n) : apC C p ka km n x y 11 (p * 4 + l) = C ka l := by
  rw [apC, up2_k (by omega), flC_k ⟨by omega, by omega⟩, flC_k ⟨by omega, by omega⟩, ap2, up2_k (by omega), acL_v (by omega) hl, ap1, up2_k (by omega), up2_k (by omega), up2_k (by omega), up2_k (by omega)]
theorem ap_11o (hq : q < p * 4) : apC C p ka km n x y 11 q = C 11 q := by
  rw [apC, up2_k (by omega), flC_k ⟨by omega, by omega⟩, flC_k ⟨by omega, by omega⟩, ap2, up2_k (by omega), acL_o hq, ap1, up2_k (by omega), up2_k (by omega), up2_k (by omega), up2_k (by omega)]
theorem ap_12 : apC C p ka km n x y 12 p = -1 := by
  rw [apC, up2_k (by omega), flC_k ⟨by omega, by omega⟩, flC_k ⟨by omega, by omega⟩, ap2, up2_s]
theorem ap_12o (hq : q ≠ p) : apC C p ka km n x y 12 q = C 12 q := by
  rw [apC, up2_k (by omega), flC_k ⟨by omega, by omega⟩, flC_k ⟨by omega, by omega⟩, ap2, up2_i hq, acL_k _ _ _ (by omega), ap1, up2_k (by omega), up2_k (by omega), up2_k (by omega), up2_k (by omega)]
theorem ap2_k {f : Nat} (hf : f < 7 ∨ 12 < f) : ap2 C p ka km n x y f = C f := by
  rw [ap2, up2_k (by omega), acL_k _ _ _ (by omega), ap1, up2_k (by omega), up2_k (by omega), up2_k (by omega), up2_k (by omega)]
theorem ap_15 : apC C p ka km n x y 15 p = 1 := by rw [apC, up2_k (by omega), flC_k ⟨by omega, by omega⟩, flC_f (by omega)]
theorem ap_15o (hq : q ≠ p) : apC C p ka km n x y 15 q = C 15 q := by rw [apC, up2_k (by omega), flC_k ⟨by omega, by omega⟩, flC_fo (by omega) hq, ap2_k (by omega)]
theorem ap_16v (hk : km < 7) (hl : l < n) : apC C p ka km n x y 16 (p * 4 + l) = C km l := by rw [apC, up2_k (by omega), flC_k ⟨by omega, by omega⟩, flC_v ⟨by omega, by omega⟩ hl, ap2_k (by omega)]
theorem ap_16o (hq : q < p * 4 ∨ p * 4 + n ≤ q) : apC C p ka km n x y 16 q = C 16 q := by rw [apC, up2_k (by omega), flC_k ⟨by omega, by omega⟩, flC_o (by omega) hq, ap2_k (by omega)]
theorem ap_17 : apC C p ka km n x y 17 p = 1 := by rw [apC, up2_k (by omega), flC_f (by omega)]
theorem ap_17o (hq : q ≠ p) : apC C p ka km n x y 17 q = C 17 q := by rw [apC, up2_k (by omega), flC_fo (by omega) hq, flC_k ⟨by omega, by omega⟩, ap2_k (by omega)]
theorem ap_18v (hk : km < 7) (hl : l < n) : apC C p ka km n x y 18 (p * 4 + l) = C km l := by rw [apC, up2_k (by omega), flC_v ⟨by omega, by omega⟩ hl, flC_k ⟨by omega, by omega⟩, ap2_k (by omega)]
theorem ap_18o (hq : q < p * 4 ∨ p * 4 + n ≤ q) : apC C p ka km n x y 18 q = C 18 q := by rw [apC, up2_k (by omega), flC_o (by omega) hq, flC_k ⟨by omega, by omega⟩, ap2_k (by omega)]
end
theorem INV_app {M C : zMS} {n ka km : Nat} {acc amt : Nat → Int32} {x : Int32} (h : INV M C) (hP : mP M < 80) (hn : n ≤ 4) (hka : ka < 7) (hkm : km < 7) (hrow : ∀ l, l < n → C ka l = acc l ∧ C km l = amt l) : INV (ptN (bgM M x) (mP M) acc amt n) (apC C (mP M) ka km n x (nI (mT M))) := by
  obtain ⟨hI, hC, hs, hpg, hnw, hby, hcp, hct, hdy, hba⟩ := h
  generalize hPe : mP M = P at *
  have fM : ∀ f, (f < 5 ∨ 13 < f) → ptN (bgM M x) P acc amt n f = M f := fun f hf => by rw [ptN_k _ _ _ _ (by omega), bgM_k (by omega)]
  have g : ∀ f, f = 6 ∨ f = 7 ∨ f = 12 ∨ f = 13 → ∀ q, q ≠ P → ptN (bgM M x) P acc amt n f q = M f q := fun f hf q hq => by
    rw [ptN_k _ _ _ _ (by omega)]
    unfold bgM
    rw [hPe]
    rcases hf with rfl | rfl | rfl | rfl
    · rw [up2_k (by omega), up2_k (by omega), up2_k (by omega), up2_k (by omega), up2_k (by omega), up2_i hq]
    · rw [up2_k (by omega), up2_k (by omega), up2_k (by omega), up2_k (by omega), up2_i hq, up2_k (by omega)]
    · rw [up2_k (by omega), up2_k (by omega), up2_i hq, up2_k (by omega), up2_k (by omega), up2_k (by omega)]
    · rw [up2_k (by omega), up2_i hq, up2_k (by omega), up2_k (by omega), up2_k (by omega), up2_k (by omega)]
  have e5 : ptN (bgM M x) P acc amt n 5 0 = nI (P + 1) := by
    rw [ptN_k _ _ _ _ (by omega)]; unfold bgM; rw [up2_s, hPe]
  have e6 : ptN (bgM M x) P acc amt n 6 P = nI (mT M) := by
    rw [ptN_k _ _ _ _ (by omega)]; unfold bgM; rw [hPe, up2_k (by omega), up2_k (by omega), up2_k (by omega), up2_k (by omega), up2_k (by omega), up2_s]
  have e7 : ptN (bgM M x) P acc amt n 7 P = x := by
    rw [ptN_k _ _ _ _ (by omega)]; unfold bgM; rw [hPe, up2_k (by omega), up2_k (by omega), up2_k (by omega), up2_k (by omega), up2_s]
  have e12 : ptN (bgM M x) P acc amt n 12 P = 0 := by
    rw [ptN_k _ _ _ _ (by omega)]; unfold bgM; rw [hPe, up2_k (by omega), up2_k (by omega), up2_s]; rfl
  have e13 : ptN (bgM M x) P acc amt n 13 P = -1 := by
    rw [ptN_k _ _ _ _ (by omega)]; unfold bgM; rw [hPe, up2_k (by omega), up2_s]
  have e8 : ptN (bgM M x) P acc amt n 8 P = nI n := by
    refine ptN_8 _ _ _ _ ?_ n
    unfold bgM; rw [hPe, up2_k (by omega), up2_k (by omega), up2_k (by omega), up2_s]
  have g8 : ∀ q, q ≠ P → ptN (bgM M x) P acc amt n 8 q = M 8 q := fun q hq => by
    rw [ptN_p _ _ _ _ hq]; unfold bgM; rw [hPe, up2_k (by omega), up2_k (by omega), up2_k (by omega), up2_i hq, up2_k (by omega), up2_k (by omega)]
  have g4 : ∀ f, f = 9 ∨ f = 10 ∨ f = 11 → ∀ q, q < 4 * P → ptN (bgM M x) P acc amt n f q = M f q := fun f hf q hq => by
    rw [ptN_o _ _ _ _ hf hq, bgM_k (by omega)]
  have eP : mP (ptN (bgM M x) P acc amt n) = P + 1 := by unfold mP; rw [e5, nN_nI (by omega)]
  have eC : mC (ptN (bgM M x) P acc amt n) = mC M := mC_f (fM 15 (by omega))
  have eL : mL (ptN (bgM M x) P acc amt n) P = n := by unfold mL; rw [e8, nN_nI (by omega)]
  have fC : ∀ f, f < 7 ∨ f = 13 ∨ f = 14 ∨ 19 < f → apC C P ka km n x (nI (mT M)) f = C f := fun f hf => apC_k (by omega)
  refine ⟨MI_ptN (MI_bg hI (by omega)) hn, CI_ap hC hP hn, ?_, fun p hp => ?_, fun p hp => ?_, fun p h1 h2 => ?_, fun k hk => ?_, ?_, ?_, ?_⟩
  · obtain ⟨s1, s2, s3, s4, s5, s6, s7⟩ := hs
    have ed : mD (ptN (bgM M x) P acc amt n) = mD M := by unfold mD; rw [fM 2 (by omega)]
    unfold RSc
    rw [ed, fM 1 (by omega), fM 2 (by omega), fM 3 (by omega), fM 4 (by omega), fM 15 (by omega), fM 23 (by omega), fM 25 (by omega), fC 0 (by omega), fC 1 (by omega), fC 2 (by omega), fC 3 (by omega), fC 20 (by omega), fC 22 (by omega), fC 27 (by omega), e5]
    exact ⟨s1, s2, by rw [apC, up2_s], s4, s5, s6, s7⟩
  · rw [eP] at hp
    by_cases q : p = P
    · subst q
      obtain ⟨b1, b2, b3, b4⟩ := hby p (Nat.le_of_eq hPe) hP
      refine ⟨by rw [ap_7, e6], by rw [ap_8, e7], by rw [ap_10, e8], by rw [ap_12, e13], by rw [fC 13 (by omega), fM 14 (by omega), b1, b3], ?_, ap_15, fun l hl => ?_, fun l h1 h2 => ?_⟩
      · rw [ap_9]; unfold mkP; rw [e6, e7, eL]
        exact fMk_cg (fun l hl => ⟨by rw [(hrow l hl).1]; exact ((ptN_v _ _ _ _ hl).1).symm, by rw [(hrow l hl).2]; exact ((ptN_v _ _ _ _ hl).2.1).symm⟩)
      · rw [eL] at hl
        rw [ap_11v hka hl, ap_16v hkm hl, (ptN_v _ _ _ _ hl).1, (ptN_v _ _ _ _ hl).2.1]; exact hrow l hl
      · rw [eL] at h1
        rw [ap_16o (by omega)]; exact (b4 l h2).1
    · refine RPg_cg hI (fun f hf => ?_) (fun l hl => ⟨g4 9 (by omega) _ (by omega), g4 10 (by omega) _ (by omega)⟩) (fun f hf => ?_) (fun l hl => ⟨ap_11o (by omega), ap_16o (by omega)⟩) (hpg p (by omega))
      · rcases hf with rfl | rfl | rfl | rfl | rfl
        · exact g 6 (by omega) p q
        · exact g 7 (by omega) p q
        · exact g8 p q
        · exact g 13 (by omega) p q
        · rw [fM 14 (by omega)]
      · rcases hf with hf | rfl | rfl | rfl
        · exact ap_o hf q
        · exact ap_12o q
        · rw [fC 13 (by omega)]
        · exact ap_15o q
  · rw [eP] at hp
    by_cases q : p = P
    · subst q
      obtain ⟨b1, b2, b3, b4⟩ := hby p (Nat.le_of_eq hPe) hP
      refine Or.inl ⟨e12, by rw [fC 14 (by omega), b2], ap_17, fun l hl => ?_, fun l h1 h2 => ?_⟩
      · rw [eL] at hl
        rw [ap_18v hkm hl, (ptN_v _ _ _ _ hl).2.2]; exact (hrow l hl).2
      · rw [eL] at h1
        rw [ap_18o (by omega)]; exact (b4 l h2).2
    · exact RNw_cg hI (g8 p q) (g 12 (by omega) p q) (fun l hl => g4 11 (by omega) _ (by omega)) (by rw [fC 14 (by omega)]) (ap_17o q) (fun l hl => ap_18o (by omega)) (hnw p (by omega))
  · rw [eP] at h1
    obtain ⟨b1, b2, b3, b4⟩ := hby p (by omega) h2
    exact ⟨by rw [fC 13 (by omega)]; exact b1, by rw [fC 14 (by omega)]; exact b2, by rw [fM 14 (by omega)]; exact b3, fun l hl => ⟨by rw [ap_16o (by omega)]; exact (b4 l hl).1, by rw [ap_18o (by omega)]; exact (b4 l hl).2⟩⟩
  · rw [eC] at hk
    have hE := (hba.2 k hk).2
    refine RCp_cg hI (by rw [fM 16 (by omega)]) (by rw [fM 17 (by omega)]) (by rw [fM 18 (by omega)]) (by rw [fM 19 (by omega)]) (by rw [fM 20 (by omega)]) (by rw [fC 28 (by omega)]) (fun f _ => by rw [fC _ (by omega)]) (fun _ p hp => RSh_cg hI (fun hh => g8 p (by have := hh.2; omega)) (by rw [fM 17 (by omega)]) (by rw [fM 18 (by omega)]) (fun _ => by rw [fM 21 (by omega)]) (fun _ l _ => by rw [fM 22 (by omega)]) (by rw [fC _ (by omega)]) (fun _ l _ => by rw [fC _ (by omega)])) (hcp k hk)
  · exact RCt_f (fun f h1 h2 => fM f (by omega)) (fun f h1 h2 => fC f (by omega)) hct
  · refine ⟨fun p q hpq hq => ?_, fun p hp => ?_, fun p hp => ?_⟩
    · rw [eP] at hq
      by_cases e : q = P
      · subst e
        rw [e6]
        by_cases e2 : p = q
        · subst e2; rw [e6]; exact Int32.le_refl _
        · rw [g 6 (by omega) p e2, ← MI_1 hI]; exact hdy.2.1 p (by omega)
      · rw [g 6 (by omega) q e, g 6 (by omega) p (by omega)]; exact hdy.1 p q hpq (by omega)
    · rw [eP] at hp
      rw [fM 1 (by omega)]
      by_cases e2 : p = P
      · subst e2; rw [e6, MI_1 hI]; exact Int32.le_refl _
      · rw [g 6 (by omega) p e2]; exact hdy.2.1 p (by omega)
    · rw [eP] at hp
      by_cases e2 : p = P
      · subst e2; exact Or.inl e13
      · rw [g 13 (by omega) p e2]; exact hdy.2.2 p (by omega)
  · obtain ⟨a1, a2⟩ := hba
    unfold RBa
    rw [eC, eP, fM 16 (by omega), fM 19 (by omega)]
    refine ⟨a1, fun k hk => ?_⟩
    have e17 : mF (ptN (bgM M x) P acc amt n) k = mF M k := by unfold mF; rw [fM 17 (by omega)]
    have e18 : mE (ptN (bgM M x) P acc amt n) k = mE M k := by unfold mE; rw [fM 18 (by omega)]
    rw [e17, e18]
    have := a2 k hk
    omega
theorem INV_write {M C : zMS} {x : Int32} (h : INV M C) (hP : mP M < 80) : INV (wrM M x) (up2 (apC C (mP M) 1 2 (mD M) x (nI (mT M))) 3 0 (nI 0)) :=
  INV_clr (INV_app (M := up2 M 0 0 (nI 0)) (INV_0 h) hP (MI_b2 h.1) (by omega) (by omega) (fun l hl => h.2.2.1.2.2.2.2.2.2 l hl))
theorem INV_op {M C C' : zMS} (h : INV M C) (hC : ∀ f, f ≠ 4 ∧ f ≠ 5 ∧ f ≠ 6 → C' f = C f) (hC' : CI C') : INV M C' := by
  obtain ⟨hI, hCC, hs, hpg, hnw, hby, hcp, hct, hdy, hba⟩ := h
  exact ⟨hI, hC', RSc_f (fun f _ => rfl) (fun f hf => hC f (by omega)) hs, fun p hp => RPg_f hI (fun f _ => rfl) (fun f hf => hC f (by omega)) (hpg p hp), fun p hp => RNw_f hI (fun f _ => rfl) (fun f hf => hC f (by omega)) (hnw p hp), RBy_f (fun f _ => rfl) (fun f hf => hC f (by omega)) hby, fun k hk => RCp_f hI (fun f _ => rfl) (fun f hf => hC f (by omega)) (hcp k hk), RCt_f (fun f _ _ => rfl) (fun f h1 h2 => hC f (by omega)) hct, hdy, hba⟩
theorem CI_opL {C : zMS} {j : Nat} (h : CI C) : ∀ {i : Nat}, i ≤ 4 → CI (opL C j i)
  | 0, _ => CI_s h (by omega)
  | i + 1, hi => CI_s (CI_r (CI_r (CI_opL h (by omega)) (by omega)) (by omega)) (by omega)
theorem opL_v {C : zMS} {j : Nat} : ∀ {i l : Nat}, l < i → opL C j i 4 l = C 11 (j * 4 + l) ∧ opL C j i 5 l = -(C 16 (j * 4 + l))
  | 0, _, h => absurd h (Nat.not_lt_zero _)
  | i + 1, l, h => by
    rw [opL, up2_k (show 4 ≠ 6 by omega), up2_k (show 5 ≠ 6 by omega), up2_k (show 4 ≠ 5 by omega), up2_a, up2_a, up2_k (show 5 ≠ 4 by omega)]
    by_cases q : l = i
    · subst q; rw [if_pos rfl, if_pos rfl]; exact ⟨rfl, rfl⟩
    · rw [if_neg q, if_neg q]; exact opL_v (by omega)
theorem INV_mk {M C : zMS} {p : Nat} (h : INV M C) (hp : p < mP M) : INV (up2 M 14 p (nI 1)) (up2 C 13 p (nI 1)) := by
  obtain ⟨hI, hC, hs, hpg, hnw, hby, hcp, hct, hdy, hba⟩ := h
  refine ⟨MI_ub hI (by omega) (Or.inr rfl), CI_z hC (by omega) (Or.inr rfl), RSc_f (fun f hf => up2_k (by omega)) (fun f hf => up2_k (by omega)) hs, fun q hq => ?_, fun q hq => RNw_f hI (fun f hf => up2_k (by omega)) (fun f hf => up2_k (by omega)) (hnw q hq), fun q h1 h2 => ?_, fun k hk => RCp_f hI (fun f hf => up2_k (by omega)) (fun f hf => up2_k (by omega)) (hcp k hk), RCt_f (fun f h1 h2 => up2_k (by omega)) (fun f h1 h2 => up2_k (by omega)) hct, RDy_f (fun f hf => up2_k (by omega)) hdy, RBa_f (fun f hf => up2_k (by omega)) hba⟩
  · obtain ⟨h1, h2, h3, h4, h5, h6, h7, h8, h9⟩ := hpg q hq
    refine ⟨h1, h2, h3, h4, ?_, h6, h7, h8, h9⟩
    rw [up2_a, up2_a]
    by_cases e : q = p
    · rw [if_pos e, if_pos e]
    · rw [if_neg e, if_neg e]; exact h5
  · have h1' : mP M ≤ q := h1
    obtain ⟨b1, b2, b3, b4⟩ := hby q h1' h2
    exact ⟨by rw [up2_i (by omega)]; exact b1, b2, by rw [up2_i (by omega)]; exact b3, b4⟩
theorem INV_rv {M C : zMS} {p : Nat} {v : Int32} (h : INV M C) (hv : rng v 80) : INV (up2 M 13 p v) (up2 C 12 p v) := by
  obtain ⟨hI, hC, hs, hpg, hnw, hby, hcp, hct, hdy, hba⟩ := h
  refine ⟨MI_r hI (by omega), CI_r hC (by omega), RSc_f (fun f hf => up2_k (by omega)) (fun f hf => up2_k (by omega)) hs, fun q hq => ?_, fun q hq => RNw_f hI (fun f hf => up2_k (by omega)) (fun f hf => up2_k (by omega)) (hnw q hq), RBy_f (fun f hf => up2_k (by omega)) (fun f hf => up2_k (by omega)) hby, fun k hk => RCp_f hI (fun f hf => up2_k (by omega)) (fun f hf => up2_k (by omega)) (hcp k hk), RCt_f (fun f h1 h2 => up2_k (by omega)) (fun f h1 h2 => up2_k (by omega)) hct, ⟨hdy.1, hdy.2.1, fun q hq => ?_⟩, RBa_f (fun f hf => up2_k (by omega)) hba⟩
  · obtain ⟨h1, h2, h3, h4, h5, h6, h7, h8, h9⟩ := hpg q hq
    refine ⟨h1, h2, h3, ?_, h5, h6, h7, h8, h9⟩
    rw [up2_a, up2_a]
    by_cases e : q = p
    · rw [if_pos e, if_pos e]
    · rw [if_neg e, if_neg e]; exact h4
  · rw [up2_a]
    by_cases e : q = p
    · rw [if_pos e]; exact Or.inr hv
    · rw [if_neg e]; exact hdy.2.2 q hq
theorem INV_reverse {M C : zMS} {p : Nat} (h : INV M C) (hp : p < mP M) (hP : mP M < 80) : INV (rvM M p) (rvC C p (nI (cT C))) := by
  obtain ⟨p1, p2, p3, -, -, -, -, p8, -⟩ := i_pg h hp
  have b := MI_b8 h.1 p
  have hL := i_L h hp
  unfold rvM rvC
  rw [hL, i_P h, i_T h, p2]
  have h1 : INV (up2 M 0 0 (nI 0)) (opL C p (mL M p)) := INV_op (INV_0 h) (fun f hf => opL_k C p hf _) (CI_opL h.2.1 b)
  have h2 := INV_app (n := mL M p) (ka := 4) (km := 5) (acc := fun l => M 9 (4 * p + l)) (amt := fun l => -(M 10 (4 * p + l))) (x := M 7 p) h1 hP b (by omega) (by omega) (fun l hl => by rw [(opL_v hl).1, (opL_v hl).2, (p8 l hl).1, (p8 l hl).2]; exact ⟨rfl, rfl⟩)
  have e5 : mP (ptN (bgM (up2 M 0 0 (nI 0)) (M 7 p)) (mP M) (fun l => M 9 (4 * p + l)) (fun l => -(M 10 (4 * p + l))) (mL M p)) = mP M + 1 := by
    unfold mP
    rw [ptN_k _ _ _ _ (by omega)]
    show nN (nI (mP M + 1)) = nN (M 5 0) + 1
    rw [nN_nI (by omega)]; rfl
  exact INV_rv (INV_mk h2 (by rw [e5]; omega)) ⟨mP M, hP, rfl⟩
