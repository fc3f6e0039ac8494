/-! numbers written into the states -/
theorem MI_s {M : zMS} {f n : Nat} (h : MI M) (hf : (f = 1 ∧ n ≤ 400) ∨ (f = 2 ∧ n ≤ 4) ∨ (f = 5 ∧ n ≤ 80) ∨ (f = 15 ∧ n ≤ 16) ∨ (f = 23 ∧ n ≤ 8) ∨ (f = 25 ∧ n ≤ 30)) : MI (up2 M f 0 (nI n)) := by
  have sc : ∀ fi bi : Nat, (M fi 0 = nI (nN (M fi 0)) ∧ nN (M fi 0) ≤ bi) → (fi = f → n ≤ bi ∧ n < 2 ^ 31) → (up2 M f 0 (nI n) fi 0 = nI (nN (up2 M f 0 (nI n) fi 0)) ∧ nN (up2 M f 0 (nI n) fi 0) ≤ bi) := by
    intro fi bi h1 h2
    by_cases e : fi = f
    · subst e; rw [up2_s, nN_nI (h2 rfl).2]; exact ⟨rfl, (h2 rfl).1⟩
    · rw [up2_k e]; exact h1
  unfold MI mP mD mC mK mH mT mL mF mE at h ⊢
  obtain ⟨h1, h2, h3, h4, h5, h6, h7, h8, h9, h10⟩ := h
  refine ⟨sc 5 80 h1 (by omega), sc 2 4 h2 (by omega), sc 15 16 h3 (by omega), sc 23 8 h4 (by omega), sc 25 30 h5 (by omega), sc 1 400 h6 (by omega), ?_⟩
  rw [up2_k (show 8 ≠ f by omega), up2_k (show 17 ≠ f by omega), up2_k (show 18 ≠ f by omega), up2_k (show 14 ≠ f by omega), up2_k (show 19 ≠ f by omega), up2_k (show 20 ≠ f by omega), up2_k (show 21 ≠ f by omega), up2_k (show 24 ≠ f by omega)]
  exact ⟨h7, h8, h9, h10⟩
theorem MI_a {M : zMS} {f i n : Nat} (h : MI M) (hf : (f = 8 ∧ n ≤ 4) ∨ (f = 17 ∧ n ≤ 80) ∨ (f = 18 ∧ n ≤ 80)) : MI (up2 M f i (nI n)) := by
  have sc : ∀ fi bi : Nat, (∀ p, M fi p = nI (nN (M fi p)) ∧ nN (M fi p) ≤ bi) → (fi = f → n ≤ bi ∧ n < 2 ^ 31) → ∀ p, (up2 M f i (nI n) fi p = nI (nN (up2 M f i (nI n) fi p)) ∧ nN (up2 M f i (nI n) fi p) ≤ bi) := by
    intro fi bi h1 h2 p
    by_cases e : fi = f
    · subst e
      rw [up2_a]
      by_cases q : p = i
      · rw [if_pos q, nN_nI (h2 rfl).2]; exact ⟨rfl, (h2 rfl).1⟩
      · rw [if_neg q]; exact h1 p
    · rw [up2_k e]; exact h1 p
  unfold MI mP mD mC mK mH mT mL mF mE at h ⊢
  obtain ⟨h1, h2, h3, h4, h5, h6, h7, h8, h9, h10⟩ := h
  rw [up2_k (show 5 ≠ f by omega), up2_k (show 2 ≠ f by omega), up2_k (show 15 ≠ f by omega), up2_k (show 23 ≠ f by omega), up2_k (show 25 ≠ f by omega), up2_k (show 1 ≠ f by omega), up2_k (show 14 ≠ f by omega), up2_k (show 19 ≠ f by omega), up2_k (show 20 ≠ f by omega), up2_k (show 21 ≠ f by omega), up2_k (show 24 ≠ f by omega)]
  exact ⟨h1, h2, h3, h4, h5, h6, sc 8 4 h7 (by omega), sc 17 80 h8 (by omega), sc 18 80 h9 (by omega), h10⟩
theorem MI_r {M : zMS} {f i : Nat} {x : Int32} (h : MI M) (hf : f = 0 ∨ f = 3 ∨ f = 4 ∨ f = 6 ∨ f = 7 ∨ (9 ≤ f ∧ f ≤ 13) ∨ f = 16 ∨ f = 22 ∨ 26 ≤ f) : MI (up2 M f i x) := MI_cg h (fun k hk => up2_k (by omega))
theorem CI_s {C : zMS} {f n : Nat} (h : CI C) (hf : (f = 0 ∧ n ≤ 400) ∨ (f = 3 ∧ n ≤ 4) ∨ (f = 6 ∧ n ≤ 4) ∨ (f = 19 ∧ n ≤ 80) ∨ (f = 22 ∧ n ≤ 8) ∨ (f = 27 ∧ n ≤ 30)) : CI (up2 C f 0 (nI n)) := by
  have sc : ∀ fi bi : Nat, (C fi 0 = nI (nN (C fi 0)) ∧ nN (C fi 0) ≤ bi) → (fi = f → n ≤ bi ∧ n < 2 ^ 31) → (up2 C f 0 (nI n) fi 0 = nI (nN (up2 C f 0 (nI n) fi 0)) ∧ nN (up2 C f 0 (nI n) fi 0) ≤ bi) := by
    intro fi bi h1 h2
    by_cases e : fi = f
    · subst e; rw [up2_s, nN_nI (h2 rfl).2]; exact ⟨rfl, (h2 rfl).1⟩
    · rw [up2_k e]; exact h1
  unfold CI cP cD cOp cM cK cH cT cL cHc cF cE at h ⊢
  obtain ⟨h1, h2, h3, h4, h5, h6, h7, h8⟩ := h
  have e41 : ∀ k, up2 C f 0 (nI n) (41 + 8 * k) = C (41 + 8 * k) := fun k => up2_k (by omega)
  have e42 : ∀ k, up2 C f 0 (nI n) (42 + 8 * k) = C (42 + 8 * k) := fun k => up2_k (by omega)
  have e43 : ∀ k, up2 C f 0 (nI n) (43 + 8 * k) = C (43 + 8 * k) := fun k => up2_k (by omega)
  have e44 : ∀ k, up2 C f 0 (nI n) (44 + 8 * k) = C (44 + 8 * k) := fun k => up2_k (by omega)
  refine ⟨sc 19 80 h1 (by omega), sc 3 4 h2 (by omega), sc 6 4 h3 (by omega), ?_, sc 22 8 h5 (by omega), sc 27 30 h6 (by omega), sc 0 400 h7 (by omega), ?_⟩
  · rw [up2_k (show 20 ≠ f by omega)]; exact h4
  · rw [up2_k (show 10 ≠ f by omega), up2_k (show 23 ≠ f by omega), up2_k (show 13 ≠ f by omega), up2_k (show 14 ≠ f by omega), up2_k (show 15 ≠ f by omega), up2_k (show 17 ≠ f by omega), up2_k (show 21 ≠ f by omega), up2_k (show 28 ≠ f by omega), up2_k (show 20 ≠ f by omega)]
    simp only [e41, e42, e43, e44]
    exact h8
theorem CI_a10 {C : zMS} {i n : Nat} (h : CI C) (hn : n ≤ 4) : CI (up2 C 10 i (nI n)) := by
  unfold CI cP cD cOp cM cK cH cT cL cHc cF cE at h ⊢
  obtain ⟨h1, h2, h3, h4, h5, h6, h7, h8, h9⟩ := h
  have e41 : ∀ k, up2 C 10 i (nI n) (41 + 8 * k) = C (41 + 8 * k) := fun k => up2_k (by omega)
  have e42 : ∀ k, up2 C 10 i (nI n) (42 + 8 * k) = C (42 + 8 * k) := fun k => up2_k (by omega)
  have e43 : ∀ k, up2 C 10 i (nI n) (43 + 8 * k) = C (43 + 8 * k) := fun k => up2_k (by omega)
  have e44 : ∀ k, up2 C 10 i (nI n) (44 + 8 * k) = C (44 + 8 * k) := fun k => up2_k (by omega)
  refine ⟨h1, h2, h3, h4, h5, h6, h7, fun p => ?_, ?_⟩
  · rw [up2_a]
    by_cases q : p = i
    · rw [if_pos q, nN_nI (by omega)]; exact ⟨rfl, hn⟩
    · rw [if_neg q]; exact h8 p
  · simp only [e41, e42, e43, e44]
    exact h9
theorem CI_28s {C : zMS} {k : Nat} (h : CI C) (hk : cM C = k) (hk2 : k < 16) : CI (up2 (up2 C 28 k (nI 1)) 20 0 (nI (k + 1))) := by
  have c1 := fun j => CI_28 h j
  unfold cM at c1 hk
  unfold CI cP cD cOp cM cK cH cT cL cHc cF cE at h ⊢
  obtain ⟨h1, h2, h3, h4, h5, h6, h7, h8, h9, h10, h11, h12, h13, h14, h15, h16, h17, h18, h19⟩ := h
  have ek : ∀ f, 28 < f → up2 (up2 C 28 k (nI 1)) 20 0 (nI (k + 1)) f = C f := fun f hf => by rw [up2_k (by omega), up2_k (by omega)]
  have e41 : ∀ k2, up2 (up2 C 28 k (nI 1)) 20 0 (nI (k + 1)) (41 + 8 * k2) = C (41 + 8 * k2) := fun k2 => ek _ (by omega)
  have e42 : ∀ k2, up2 (up2 C 28 k (nI 1)) 20 0 (nI (k + 1)) (42 + 8 * k2) = C (42 + 8 * k2) := fun k2 => ek _ (by omega)
  have e43 : ∀ k2, up2 (up2 C 28 k (nI 1)) 20 0 (nI (k + 1)) (43 + 8 * k2) = C (43 + 8 * k2) := fun k2 => ek _ (by omega)
  have e44 : ∀ k2, up2 (up2 C 28 k (nI 1)) 20 0 (nI (k + 1)) (44 + 8 * k2) = C (44 + 8 * k2) := fun k2 => ek _ (by omega)
  simp only [e41, e42, e43, e44]
  refine ⟨h1, h2, h3, ⟨?_, ?_⟩, h5, h6, h7, h8, h9, h10, h11, h12, h13, h14, h15, h16, h17, h18, fun j hj => ?_⟩
  · show nI (k + 1) = nI (nN (nI (k + 1))); rw [nN_nI (by omega)]
  · show nN (nI (k + 1)) ≤ 16; rw [nN_nI (by omega)]; omega
  · show j < nN (nI (k + 1))
    rw [nN_nI (by omega)]
    by_cases q : j = k
    · omega
    · have hj2 : C 28 j = 1 := by
        have : up2 C 28 k (nI 1) 28 j = C 28 j := up2_i q
        exact this ▸ hj
      have := c1 j hj2
      omega
theorem INV_0 {M C : zMS} {x : Int32} (h : INV M C) : INV (up2 M 0 0 x) C := h
/-! legs of the draft, days -/
theorem INV_leg {M C : zMS} {x y : Int32} (h : INV M C) (hD : mD M < 4) : INV (lgM M x y) (up2 (up2 (up2 C 1 (mD M) x) 2 (mD M) y) 3 0 (nI (mD M + 1))) := by
  obtain ⟨hI, hC, hs, hpg, hnw, hby, hcp, hct, hdy, hba⟩ := h
  have fM : ∀ f, f ≠ 0 → f ≠ 3 → f ≠ 4 → f ≠ 2 → lgM M x y f = M f := fun f h0 h3 h4 h2 => by unfold lgM; rw [up2_k h2, up2_k h4, up2_k h3, up2_k h0]
  have fC : ∀ f, f ≠ 1 → f ≠ 2 → f ≠ 3 → up2 (up2 (up2 C 1 (mD M) x) 2 (mD M) y) 3 0 (nI (mD M + 1)) f = C f := fun f h1 h2 h3 => by rw [up2_k h3, up2_k h2, up2_k h1]
  have ep : mP (lgM M x y) = mP M := mP_f (fM 5 (by omega) (by omega) (by omega) (by omega))
  have ec : mC (lgM M x y) = mC M := mC_f (fM 15 (by omega) (by omega) (by omega) (by omega))
  have ed : mD (lgM M x y) = mD M + 1 := by show nN (nI (mD M + 1)) = _; rw [nN_nI (by omega)]
  refine ⟨?_, ?_, ?_, fun p hp => ?_, fun p hp => ?_, ?_, fun k hk => ?_, ?_, ?_, ?_⟩
  · exact MI_s (MI_r (MI_r (MI_r hI (by omega)) (by omega)) (by omega)) (by omega)
  · exact CI_s (CI_r (CI_r hC (by omega)) (by omega)) (by omega)
  · obtain ⟨s1, s2, s3, s4, s5, s6, s7⟩ := hs
    refine ⟨s1, rfl, s3, s4, s5, s6, fun l hl => ?_⟩
    rw [ed] at hl
    show up2 C 1 (mD M) x 1 l = up2 M 3 (mD M) x 3 l ∧ up2 C 2 (mD M) y 2 l = up2 M 4 (mD M) y 4 l
    rw [up2_a, up2_a, up2_a, up2_a]
    by_cases q : l = mD M
    · rw [if_pos q, if_pos q, if_pos q, if_pos q]; exact ⟨rfl, rfl⟩
    · rw [if_neg q, if_neg q, if_neg q, if_neg q]; exact s7 l (by omega)
  · rw [ep] at hp; exact RPg_f hI (fun f hf => fM f (by omega) (by omega) (by omega) (by omega)) (fun f hf => fC f (by omega) (by omega) (by omega)) (hpg p hp)
  · rw [ep] at hp; exact RNw_f hI (fun f hf => fM f (by omega) (by omega) (by omega) (by omega)) (fun f hf => fC f (by omega) (by omega) (by omega)) (hnw p hp)
  · exact RBy_f (fun f hf => fM f (by omega) (by omega) (by omega) (by omega)) (fun f hf => fC f (by omega) (by omega) (by omega)) hby
  · rw [ec] at hk; exact RCp_f hI (fun f hf => fM f (by omega) (by omega) (by omega) (by omega)) (fun f hf => fC f (by omega) (by omega) (by omega)) (hcp k hk)
  · exact RCt_f (fun f h1 h2 => fM f (by omega) (by omega) (by omega) (by omega)) (fun f h1 h2 => fC f (by omega) (by omega) (by omega)) hct
  · exact RDy_f (fun f hf => fM f (by omega) (by omega) (by omega) (by omega)) hdy
  · exact RBa_f (fun f hf => fM f (by omega) (by omega) (by omega) (by omega)) hba
theorem INV_clr {M C : zMS} (h : INV M C) : INV (up2 M 2 0 (nI 0)) (up2 C 3 0 (nI 0)) := by
  obtain ⟨hI, hC, hs, hpg, hnw, hby, hcp, hct, hdy, hba⟩ := h
  refine ⟨MI_s hI (by omega), CI_s hC (by omega), ?_, fun p hp => RPg_f hI (fun f hf => up2_k (by omega)) (fun f hf => up2_k (by omega)) (hpg p hp), fun p hp => RNw_f hI (fun f hf => up2_k (by omega)) (fun f hf => up2_k (by omega)) (hnw p hp), RBy_f (fun f hf => up2_k (by omega)) (fun f hf => up2_k (by omega)) hby, fun k hk => RCp_f hI (fun f hf => up2_k (by omega)) (fun f hf => up2_k (by omega)) (hcp k hk), RCt_f (fun f h1 h2 => up2_k (by omega)) (fun f h1 h2 => up2_k (by omega)) hct, RDy_f (fun f hf => up2_k (by omega)) hdy, RBa_f (fun f hf => up2_k (by omega)) hba⟩
  obtain ⟨s1, s2, s3, s4, s5, s6, s7⟩ := hs
  exact ⟨s1, rfl, s3, s4, s5, s6, fun l hl => absurd hl (by rw [show mD (up2 M 2 0 (nI 0)) = 0 from rfl]; omega)⟩
theorem INV_pass {M C : zMS} {n : Nat} (h : INV M C) (hn : mT M ≤ n) (hn2 : n ≤ 400) : INV (up2 M 1 0 (nI n)) (up2 C 0 0 (nI n)) := by
  obtain ⟨hI, hC, hs, hpg, hnw, hby, hcp, hct, hdy, hba⟩ := h
  refine ⟨MI_s hI (by omega), CI_s hC (by omega), ?_, fun p hp => RPg_f hI (fun f hf => up2_k (by omega)) (fun f hf => up2_k (by omega)) (hpg p hp), fun p hp => RNw_f hI (fun f hf => up2_k (by omega)) (fun f hf => up2_k (by omega)) (hnw p hp), RBy_f (fun f hf => up2_k (by omega)) (fun f hf => up2_k (by omega)) hby, fun k hk => RCp_f hI (fun f hf => up2_k (by omega)) (fun f hf => up2_k (by omega)) (hcp k hk), RCt_f (fun f h1 h2 => up2_k (by omega)) (fun f h1 h2 => up2_k (by omega)) hct, ⟨hdy.1, fun p hp => ?_, hdy.2.2⟩, RBa_f (fun f hf => up2_k (by omega)) hba⟩
  · obtain ⟨s1, s2, s3, s4, s5, s6, s7⟩ := hs
    exact ⟨rfl, s2, s3, s4, s5, s6, s7⟩
  · refine Int32.le_trans (hdy.2.1 p hp) ?_
    show M 1 0 ≤ nI n
    rw [MI_1 hI]
    exact (nI_leI (by omega) (by omega)).mpr hn
/-! pages burnt, altered -/
theorem blC_f {C : zMS} {f r j : Nat} (hfr : f ≠ r) : blC C f r j f j = 0 := by
  unfold blC; rw [blL_k _ _ _ hfr, up2_s]; rfl
theorem blC_fo {C : zMS} {f r j p : Nat} (hfr : f ≠ r) (hp : p ≠ j) : blC C f r j f p = C f p := by
  unfold blC; rw [blL_k _ _ _ hfr, up2_i hp]
theorem blL_v {C : zMS} {r j : Nat} : ∀ {i l : Nat}, l < i → blL C r j i r (j * 4 + l) = 0
  | 0, _, h => absurd h (Nat.not_lt_zero _)
  | i + 1, l, h => by
    rw [blL, up2_a]
    by_cases q : l = i
    · rw [if_pos (by omega)]; rfl
    · rw [if_neg (by omega)]; exact blL_v (by omega)
theorem blL_o {C : zMS} {r j q : Nat} (hq : q < j * 4 ∨ j * 4 + 4 ≤ q) : ∀ {i : Nat}, i ≤ 4 → blL C r j i r q = C r q
  | 0, _ => rfl
  | i + 1, h => by rw [blL, up2_i (by omega), blL_o hq (by omega)]
theorem blC_v {C : zMS} {f r j l : Nat} (hl : l < 4) : blC C f r j r (j * 4 + l) = 0 := blL_v hl
theorem blC_o {C : zMS} {f r j q : Nat} (hfr : f ≠ r) (hq : q < j * 4 ∨ j * 4 + 4 ≤ q) : blC C f r j r q = C r q := by
  unfold blC; rw [blL_o hq (Nat.le_refl _), up2_k hfr.symm]
/-- a page that burns, or is struck: v its new state, C1 the class's state with its mark set -/
theorem RNw_bl {M C C1 : zMS} {j p : Nat} {v : Int32} (hI : MI M) (hk : ∀ f, f ≠ 14 → C1 f = C f) (h14 : ∀ q, q ≠ j → C1 14 q = C 14 q) (hv : (v = nI 1 ∧ C1 14 j = 0) ∨ (v = nI 2 ∧ C1 14 j = 1)) (h : p ≠ j → RNw M C p) : RNw (up2 M 12 j v) (blC C1 17 18 j) p := by
  by_cases q : p = j
  · subst q
    rcases hv with ⟨h1, h2⟩ | ⟨h1, h2⟩
    · exact Or.inr (Or.inl ⟨by rw [up2_s, h1], by rw [blC_k (by omega)]; exact h2, blC_f (by omega), fun l hl => blC_v hl⟩)
    · exact Or.inr (Or.inr ⟨by rw [up2_s, h1], by rw [blC_k (by omega)]; exact h2, blC_f (by omega), fun l hl => blC_v hl⟩)
  · exact RNw_cg hI (by rw [up2_k (by omega)]) (by rw [up2_i q]) (fun l hl => by rw [up2_k (by omega)]) (by rw [blC_k (by omega)]; exact h14 p q) (by rw [blC_fo (by omega) q, hk 17 (by omega)]) (fun l hl => by rw [blC_o (by omega) (by omega), hk 18 (by omega)]) (h q)
theorem INV_nw {M M' C C' : zMS} (h : INV M C) (hM : ∀ f, f ≠ 11 → f ≠ 12 → M' f = M f) (hC : ∀ f, f ≠ 14 → f ≠ 17 → f ≠ 18 → C' f = C f) (hI' : MI M') (hC' : CI C') (hnw : ∀ p, p < mP M → RNw M' C' p) (hby : ∀ p, mP M ≤ p → p < 80 → C' 14 p = C 14 p ∧ ∀ l, l < 4 → C' 18 (p * 4 + l) = C 18 (p * 4 + l)) : INV M' C' := by
  obtain ⟨hI, hCC, hs, hpg, hnw0, hby0, hcp, hct, hdy, hba⟩ := h
  have ep : mP M' = mP M := mP_f (hM 5 (by omega) (by omega))
  have ec : mC M' = mC M := mC_f (hM 15 (by omega) (by omega))
  refine ⟨hI', hC', RSc_f (fun f hf => hM f (by omega) (by omega)) (fun f hf => hC f (by omega) (by omega) (by omega)) hs, fun p hp => RPg_f hI (fun f hf => hM f (by omega) (by omega)) (fun f hf => hC f (by omega) (by omega) (by omega)) (hpg p (ep ▸ hp)), fun p hp => hnw p (ep ▸ hp), ?_, fun k hk => RCp_f hI (fun f hf => hM f (by omega) (by omega)) (fun f hf => hC f (by omega) (by omega) (by omega)) (hcp k (ec ▸ hk)), RCt_f (fun f h1 h2 => hM f (by omega) (by omega)) (fun f h1 h2 => hC f (by omega) (by omega) (by omega)) hct, RDy_f (fun f hf => hM f (by omega) (by omega)) hdy, RBa_f (fun f hf => hM f (by omega) (by omega)) hba⟩
  intro p hp hp2
  rw [ep] at hp
  obtain ⟨b1, b2, b3, b4⟩ := hby0 p hp hp2
  obtain ⟨c1, c2⟩ := hby p hp hp2
  refine ⟨by rw [hC 13 (by omega) (by omega) (by omega)]; exact b1, by rw [c1]; exact b2, by rw [hM 14 (by omega) (by omega)]; exact b3, fun l hl => ⟨by rw [hC 16 (by omega) (by omega) (by omega)]; exact (b4 l hl).1, by rw [c2 l hl]; exact (b4 l hl).2⟩⟩
theorem up2_v {M : zMS} {k i : Nat} : up2 M k i (M k i) = M := up2_id rfl
theorem INV_burn1 {M C : zMS} {p : Nat} (h : INV M C) (hp : p < mP M) : INV (up2 M 12 p (ifI (M 12 p = 0) (nI 1) (M 12 p))) (blC C 17 18 p) := by
  obtain ⟨c1, c2, c3, c4⟩ := n12
  have bP := MI_b5 h.1
  refine INV_nw h (fun f h1 h2 => up2_k h2) (fun f h1 h2 h3 => blC_k ⟨h2, h3⟩) (MI_r h.1 (by omega)) (CI_blC h.2.1 (Or.inl rfl) (Or.inl rfl)) (fun q hq => ?_) (fun q h1 h2 => ⟨by rw [blC_k (by omega)], fun l hl => blC_o (by omega) (by omega)⟩)
  refine RNw_bl h.1 (fun f _ => rfl) (fun q _ => rfl) ?_ (fun _ => i_nw h hq)
  rcases i_nw h hp with ⟨h1, h2, -⟩ | ⟨h1, h2, -⟩ | ⟨h1, h2, -⟩
  · exact Or.inl ⟨by rw [ifI_t h1], h2⟩
  · exact Or.inl ⟨by rw [ifI_f (by rw [h1]; exact c1), h1], h2⟩
  · exact Or.inr ⟨by rw [ifI_f (by rw [h1]; exact c2), h1], h2⟩
theorem INV_burn {M C : zMS} {a : Nat} (h : INV M C) : ∀ {i : Nat}, a + i ≤ mP M → INV (buN M a i) (brN C a i) ∧ brK C a i = zcnt (fun l => M 12 (a + l) = 0) i
  | 0, _ => ⟨h, rfl⟩
  | i + 1, hi => by
    obtain ⟨h1, h2⟩ := INV_burn (a := a) h (i := i) (by omega)
    have ep : mP (buN M a i) = mP M := mP_f (buN_k M a (by omega) i)
    have e12 : buN M a i 12 (a + i) = M 12 (a + i) := buN_o M a i (by omega)
    refine ⟨?_, ?_⟩
    · have h3 := INV_burn1 h1 (p := a + i) (by rw [ep]; omega)
      rw [e12] at h3
      exact h3
    · rw [brK, zcnt, h2, ifN_cg (show (¬ brN C a i 17 (a + i) = 0) ↔ M 12 (a + i) = 0 from e12 ▸ i_St0 h1 (p := a + i) (by rw [ep]; omega))]
theorem INV_alter {M C : zMS} {p l : Nat} {z : Int32} (h : INV M C) (hp : p < mP M) (h0 : M 12 p = 0) (hl : l < mL M p) : INV (up2 M 11 (4 * p + l) z) (up2 C 18 (p * 4 + l) z) := by
  obtain ⟨c1, c2, c3, c4⟩ := n12
  have bL := MI_b8 h.1 p
  refine INV_nw h (fun f h1 h2 => up2_k h1) (fun f h1 h2 h3 => up2_k h3) (MI_r h.1 (by omega)) (CI_r h.2.1 (by omega)) (fun q hq => ?_) (fun q h1 h2 => ⟨by rw [up2_k (by omega)], fun i hi => by rw [up2_i (by omega)]⟩)
  have bQ := MI_b8 h.1 q
  by_cases e : q = p
  · subst e
    rcases i_nw h hq with ⟨h1, h2, h3, h4, h5⟩ | ⟨h1, -⟩ | ⟨h1, -⟩
    · refine Or.inl ⟨h1, h2, h3, fun i hi => ?_, fun i h6 h7 => ?_⟩
      · rw [up2_a, up2_a]
        by_cases q2 : i = l
        · rw [if_pos (by omega), if_pos (by omega)]
        · rw [if_neg (by omega), if_neg (by omega)]; exact h4 i hi
      · rw [up2_i (by have : mL (up2 M 11 (4 * q + l) z) q = mL M q := rfl; omega)]; exact h5 i h6 h7
    · exact absurd (h1.symm.trans h0) c1
    · exact absurd (h1.symm.trans h0) c2
  · exact RNw_cg (C := C) h.1 rfl rfl (fun i hi => by rw [up2_i (by omega)]) rfl rfl (fun i hi => by rw [up2_i (by omega)]) (i_nw h hq)
