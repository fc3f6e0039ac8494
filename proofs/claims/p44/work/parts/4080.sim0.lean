/-! the two states side by side -/
def RPg (M C : zMS) (p : Nat) : Prop := C 7 p = M 6 p ∧ C 8 p = M 7 p ∧ C 10 p = M 8 p ∧ C 12 p = M 13 p ∧ C 13 p = M 14 p ∧ C 9 p = mkP M p ∧ C 15 p = 1 ∧ (∀ l, l < mL M p → C 11 (p * 4 + l) = M 9 (4 * p + l) ∧ C 16 (p * 4 + l) = M 10 (4 * p + l)) ∧ ∀ l, mL M p ≤ l → l < 4 → C 16 (p * 4 + l) = 0
def RNw (M C : zMS) (p : Nat) : Prop :=
  (M 12 p = 0 ∧ C 14 p = 0 ∧ C 17 p = 1 ∧ (∀ l, l < mL M p → C 18 (p * 4 + l) = M 11 (4 * p + l)) ∧ ∀ l, mL M p ≤ l → l < 4 → C 18 (p * 4 + l) = 0) ∨
  (M 12 p = nI 1 ∧ C 14 p = 0 ∧ C 17 p = 0 ∧ ∀ l, l < 4 → C 18 (p * 4 + l) = 0) ∨
  (M 12 p = nI 2 ∧ C 14 p = 1 ∧ C 17 p = 0 ∧ ∀ l, l < 4 → C 18 (p * 4 + l) = 0)
def RSh (M C : zMS) (k p : Nat) : Prop :=
  (pHas M k p → (M 21 (80 * k + p) = 0 ∧ C (44 + 8 * k) p = 0 ∧ ∀ l, l < 4 → C (45 + 8 * k) (p * 4 + l) = 0) ∨ (M 21 (80 * k + p) = 1 ∧ C (44 + 8 * k) p = 1 ∧ (∀ l, l < mL M p → C (45 + 8 * k) (p * 4 + l) = M 22 (4 * (80 * k + p) + l)) ∧ ∀ l, mL M p ≤ l → l < 4 → C (45 + 8 * k) (p * 4 + l) = 0)) ∧
  (¬ pHas M k p → C (44 + 8 * k) p = 0)
def RCp (M C : zMS) (k : Nat) : Prop := C (40 + 8 * k) 0 = M 16 k ∧ C (41 + 8 * k) 0 = M 17 k ∧ C (42 + 8 * k) 0 = M 18 k ∧ ((C 28 k = 1 ∧ M 19 k = 0) ∨ (¬ C 28 k = 1 ∧ ¬ M 19 k = 0)) ∧ ((C (43 + 8 * k) 0 = 1 ∧ M 20 k = 0) ∨ (C (43 + 8 * k) 0 = 0 ∧ ¬ M 20 k = 0)) ∧ (M 19 k = 0 → ∀ p, p < 80 → RSh M C k p)
def RCt (M C : zMS) : Prop := (∀ c, c < mK M → (C 21 c = 1 ∧ M 24 c = 0) ∨ (C 21 c = 0 ∧ ¬ M 24 c = 0)) ∧ ∀ h, h < mH M → C 23 h = M 26 h ∧ C 24 h = M 27 h ∧ C 25 h = M 28 h ∧ C 26 h = M 29 h ∧ rng (M 26 h) (mK M)
def RSc (M C : zMS) : Prop := C 0 0 = M 1 0 ∧ C 3 0 = M 2 0 ∧ C 19 0 = M 5 0 ∧ C 20 0 = M 15 0 ∧ C 22 0 = M 23 0 ∧ C 27 0 = M 25 0 ∧ ∀ l, l < mD M → C 1 l = M 3 l ∧ C 2 l = M 4 l
def RDy (M : zMS) : Prop := (∀ p q, p ≤ q → q < mP M → M 6 p ≤ M 6 q) ∧ (∀ p, p < mP M → M 6 p ≤ M 1 0) ∧ ∀ p, p < mP M → M 13 p = -1 ∨ rng (M 13 p) 80
def RBy (M C : zMS) : Prop := ∀ p, mP M ≤ p → p < 80 → C 13 p = 0 ∧ C 14 p = 0 ∧ M 14 p = 0 ∧ ∀ l, l < 4 → C 16 (p * 4 + l) = 0 ∧ C 18 (p * 4 + l) = 0
def RBa (M : zMS) : Prop := (∀ k, k < mC M → M 16 k = -1 ∨ ∃ d, d < k ∧ M 16 k = nI d ∧ (M 19 k = 0 → M 19 d = 0)) ∧ ∀ k, k < mC M → mF M k ≤ mE M k ∧ mE M k ≤ mP M
def INV (M C : zMS) : Prop := MI M ∧ CI C ∧ RSc M C ∧ (∀ p, p < mP M → RPg M C p) ∧ (∀ p, p < mP M → RNw M C p) ∧ RBy M C ∧ (∀ k, k < mC M → RCp M C k) ∧ RCt M C ∧ RDy M ∧ RBa M
section
variable {M M' C C' : zMS} {p k : Nat}
theorem fMk_cg {a1 a2 b1 b2 : Nat → Int32} {m : Int32} : ∀ {n : Nat}, (∀ l, l < n → a1 l = a2 l ∧ b1 l = b2 l) → fMk a1 b1 m n = fMk a2 b2 m n
  | 0, _ => rfl
  | n + 1, h => by rw [fMk, fMk, fMk_cg (fun l hl => h l (Nat.lt_succ_of_lt hl)), (h n (Nat.lt_succ_self n)).1, (h n (Nat.lt_succ_self n)).2]
theorem mkP_cg (hM : MI M) (h6 : M' 6 p = M 6 p) (h7 : M' 7 p = M 7 p) (h8 : M' 8 p = M 8 p) (h4 : ∀ l, l < 4 → M' 9 (4 * p + l) = M 9 (4 * p + l) ∧ M' 10 (4 * p + l) = M 10 (4 * p + l)) : mkP M' p = mkP M p := by
  have hL : mL M' p = mL M p := by unfold mL; rw [h8]
  have b := (MI_b8 hM p)
  unfold mkP
  rw [h6, h7, hL]
  exact fMk_cg (fun l hl => h4 l (by omega))
theorem RPg_cg (hI : MI M) (hM : ∀ f, f = 6 ∨ f = 7 ∨ f = 8 ∨ f = 13 ∨ f = 14 → M' f p = M f p) (hM4 : ∀ l, l < 4 → M' 9 (4 * p + l) = M 9 (4 * p + l) ∧ M' 10 (4 * p + l) = M 10 (4 * p + l)) (hC : ∀ f, (7 ≤ f ∧ f ≤ 10) ∨ f = 12 ∨ f = 13 ∨ f = 15 → C' f p = C f p) (hC4 : ∀ l, l < 4 → C' 11 (p * 4 + l) = C 11 (p * 4 + l) ∧ C' 16 (p * 4 + l) = C 16 (p * 4 + l)) (h : RPg M C p) : RPg M' C' p := by
  have hL : mL M' p = mL M p := by unfold mL; rw [hM 8 (by omega)]
  have b := (MI_b8 hI p)
  unfold RPg at h ⊢
  rw [mkP_cg hI (hM 6 (by omega)) (hM 7 (by omega)) (hM 8 (by omega)) hM4, hL, hM 6 (by omega), hM 7 (by omega), hM 8 (by omega), hM 13 (by omega), hM 14 (by omega), hC 7 (by omega), hC 8 (by omega), hC 10 (by omega), hC 12 (by omega), hC 13 (by omega), hC 9 (by omega), hC 15 (by omega)]
  obtain ⟨h1, h2, h3, h4, h5, h6, h7, h8, h9⟩ := h
  exact ⟨h1, h2, h3, h4, h5, h6, h7, fun l hl => by rw [(hC4 l (by omega)).1, (hC4 l (by omega)).2, (hM4 l (by omega)).1, (hM4 l (by omega)).2]; exact h8 l hl, fun l h1 h2 => by rw [(hC4 l h2).2]; exact h9 l h1 h2⟩
theorem RPg_f (hI : MI M) (hM : ∀ f, (6 ≤ f ∧ f ≤ 10) ∨ f = 13 ∨ f = 14 → M' f = M f) (hC : ∀ f, (7 ≤ f ∧ f ≤ 13) ∨ f = 15 ∨ f = 16 → C' f = C f) (h : RPg M C p) : RPg M' C' p :=
  RPg_cg hI (fun f hf => by rw [hM f (by omega)]) (fun l _ => by rw [hM 9 (by omega), hM 10 (by omega)]; exact ⟨rfl, rfl⟩) (fun f hf => by rw [hC f (by omega)]) (fun l _ => by rw [hC 11 (by omega), hC 16 (by omega)]; exact ⟨rfl, rfl⟩) h
theorem RNw_cg (hI : MI M) (h8 : M' 8 p = M 8 p) (h12 : M' 12 p = M 12 p) (hM4 : ∀ l, l < 4 → M' 11 (4 * p + l) = M 11 (4 * p + l)) (h14 : C' 14 p = C 14 p) (h17 : C' 17 p = C 17 p) (hC4 : ∀ l, l < 4 → C' 18 (p * 4 + l) = C 18 (p * 4 + l)) (h : RNw M C p) : RNw M' C' p := by
  have hL : mL M' p = mL M p := by unfold mL; rw [h8]
  have b := (MI_b8 hI p)
  unfold RNw at h ⊢
  rw [hL, h12, h14, h17]
  rcases h with ⟨h1, h2, h3, h4, h5⟩ | ⟨h1, h2, h3, h4⟩ | ⟨h1, h2, h3, h4⟩
  · exact Or.inl ⟨h1, h2, h3, fun l hl => by rw [hC4 l (by omega), hM4 l (by omega)]; exact h4 l hl, fun l ha hb => by rw [hC4 l hb]; exact h5 l ha hb⟩
  · exact Or.inr (Or.inl ⟨h1, h2, h3, fun l hl => by rw [hC4 l hl]; exact h4 l hl⟩)
  · exact Or.inr (Or.inr ⟨h1, h2, h3, fun l hl => by rw [hC4 l hl]; exact h4 l hl⟩)
theorem RNw_f (hI : MI M) (hM : ∀ f, f = 8 ∨ f = 11 ∨ f = 12 → M' f = M f) (hC : ∀ f, f = 14 ∨ f = 17 ∨ f = 18 → C' f = C f) (h : RNw M C p) : RNw M' C' p :=
  RNw_cg hI (by rw [hM 8 (by omega)]) (by rw [hM 12 (by omega)]) (fun l _ => by rw [hM 11 (by omega)]) (by rw [hC 14 (by omega)]) (by rw [hC 17 (by omega)]) (fun l _ => by rw [hC 18 (by omega)]) h
theorem RSh_cg (hI : MI M) (h8 : pHas M k p → M' 8 p = M 8 p) (h17 : M' 17 k = M 17 k) (h18 : M' 18 k = M 18 k) (h21 : pHas M k p → M' 21 (80 * k + p) = M 21 (80 * k + p)) (h22 : pHas M k p → ∀ l, l < 4 → M' 22 (4 * (80 * k + p) + l) = M 22 (4 * (80 * k + p) + l)) (h44 : C' (44 + 8 * k) p = C (44 + 8 * k) p) (h45 : pHas M k p → ∀ l, l < 4 → C' (45 + 8 * k) (p * 4 + l) = C (45 + 8 * k) (p * 4 + l)) (h : RSh M C k p) : RSh M' C' k p := by
  have hH : pHas M' k p ↔ pHas M k p := by unfold pHas mF mE; rw [h17, h18]
  have b := (MI_b8 hI p)
  refine ⟨fun q => ?_, fun q => by rw [h44]; exact h.2 (fun r => q (hH.mpr r))⟩
  have q' := hH.mp q
  have hL : mL M' p = mL M p := by unfold mL; rw [h8 q']
  rw [h21 q', h44, hL]
  rcases h.1 q' with ⟨h1, h2, h3⟩ | ⟨h1, h2, h3, h4⟩
  · exact Or.inl ⟨h1, h2, fun l hl => by rw [h45 q' l hl]; exact h3 l hl⟩
  · exact Or.inr ⟨h1, h2, fun l hl => by rw [h45 q' l (by omega), h22 q' l (by omega)]; exact h3 l hl, fun l ha hb => by rw [h45 q' l hb]; exact h4 l ha hb⟩
theorem RCp_cg (hI : MI M) (h16 : M' 16 k = M 16 k) (h17 : M' 17 k = M 17 k) (h18 : M' 18 k = M 18 k) (h19 : M' 19 k = M 19 k) (h20 : M' 20 k = M 20 k) (h28 : C' 28 k = C 28 k) (h40 : ∀ f, f < 4 → C' (40 + f + 8 * k) 0 = C (40 + f + 8 * k) 0)
    (hs : M 19 k = 0 → ∀ p, p < 80 → RSh M C k p → RSh M' C' k p) (h : RCp M C k) : RCp M' C' k := by
  unfold RCp at h ⊢
  rw [h16, h17, h18, h19, h20, h28, h40 0 (by omega), h40 1 (by omega), h40 2 (by omega), h40 3 (by omega)]
  obtain ⟨h1, h2, h3, h4, h5, h6⟩ := h
  exact ⟨h1, h2, h3, h4, h5, fun q p hp => hs q p hp (h6 q p hp)⟩
theorem RCp_f (hI : MI M) (hM : ∀ f, f = 8 ∨ (16 ≤ f ∧ f ≤ 22) → M' f = M f) (hC : ∀ f, 28 ≤ f → C' f = C f) (h : RCp M C k) : RCp M' C' k :=
  RCp_cg hI (by rw [hM 16 (by omega)]) (by rw [hM 17 (by omega)]) (by rw [hM 18 (by omega)]) (by rw [hM 19 (by omega)]) (by rw [hM 20 (by omega)]) (by rw [hC 28 (by omega)]) (fun f _ => by rw [hC _ (by omega)]) (fun _ p hp => RSh_cg hI (fun _ => by rw [hM 8 (by omega)]) (by rw [hM 17 (by omega)]) (by rw [hM 18 (by omega)]) (fun _ => by rw [hM 21 (by omega)]) (fun _ l _ => by rw [hM 22 (by omega)]) (by rw [hC _ (by omega)]) (fun _ l _ => by rw [hC _ (by omega)])) h
theorem RCt_f (hM : ∀ f, 23 ≤ f → f ≤ 29 → M' f = M f) (hC : ∀ f, 21 ≤ f → f ≤ 26 → C' f = C f) (h : RCt M C) : RCt M' C' := by
  unfold RCt mK mH at h ⊢
  rw [hM 23 (by omega) (by omega), hM 24 (by omega) (by omega), hM 25 (by omega) (by omega), hM 26 (by omega) (by omega), hM 27 (by omega) (by omega), hM 28 (by omega) (by omega), hM 29 (by omega) (by omega), hC 21 (by omega) (by omega), hC 23 (by omega) (by omega), hC 24 (by omega) (by omega), hC 25 (by omega) (by omega), hC 26 (by omega) (by omega)]
  exact h
theorem RSc_f (hM : ∀ f, (1 ≤ f ∧ f ≤ 5) ∨ f = 15 ∨ f = 23 ∨ f = 25 → M' f = M f) (hC : ∀ f, f ≤ 3 ∨ f = 19 ∨ f = 20 ∨ f = 22 ∨ f = 27 → C' f = C f) (h : RSc M C) : RSc M' C' := by
  unfold RSc mD at h ⊢
  rw [hM 1 (by omega), hM 2 (by omega), hM 3 (by omega), hM 4 (by omega), hM 5 (by omega), hM 15 (by omega), hM 23 (by omega), hM 25 (by omega), hC 0 (by omega), hC 1 (by omega), hC 2 (by omega), hC 3 (by omega), hC 19 (by omega), hC 20 (by omega), hC 22 (by omega), hC 27 (by omega)]
  exact h
theorem RDy_f (hM : ∀ f, f = 1 ∨ f = 5 ∨ f = 6 ∨ f = 13 → M' f = M f) (h : RDy M) : RDy M' := by
  unfold RDy mP at h ⊢
  rw [hM 1 (by omega), hM 5 (by omega), hM 6 (by omega), hM 13 (by omega)]
  exact h
theorem RBy_f (hM : ∀ f, f = 5 ∨ f = 14 → M' f = M f) (hC : ∀ f, f = 13 ∨ f = 14 ∨ f = 16 ∨ f = 18 → C' f = C f) (h : RBy M C) : RBy M' C' := by
  unfold RBy mP at h ⊢
  rw [hM 5 (by omega), hM 14 (by omega), hC 13 (by omega), hC 14 (by omega), hC 16 (by omega), hC 18 (by omega)]
  exact h
theorem RBa_f (hM : ∀ f, f = 5 ∨ (15 ≤ f ∧ f ≤ 19) → M' f = M f) (h : RBa M) : RBa M' := by
  unfold RBa mC mF mE mP at h ⊢
  rw [hM 5 (by omega), hM 15 (by omega), hM 16 (by omega), hM 17 (by omega), hM 18 (by omega), hM 19 (by omega)]
  exact h
theorem mP_f (h : M' 5 = M 5) : mP M' = mP M := by unfold mP; rw [h]
theorem mC_f (h : M' 15 = M 15) : mC M' = mC M := by unfold mC; rw [h]
/-! what follows of it -/
theorem i_P (h : INV M C) : cP C = mP M := by unfold cP mP; rw [h.2.2.1.2.2.1]
theorem i_D (h : INV M C) : cD C = mD M := by unfold cD mD; rw [h.2.2.1.2.1]
theorem i_M (h : INV M C) : cM C = mC M := by unfold cM mC; rw [h.2.2.1.2.2.2.1]
theorem i_K (h : INV M C) : cK C = mK M := by unfold cK mK; rw [h.2.2.1.2.2.2.2.1]
theorem i_H (h : INV M C) : cH C = mH M := by unfold cH mH; rw [h.2.2.1.2.2.2.2.2.1]
theorem i_T (h : INV M C) : cT C = mT M := by unfold cT mT; rw [h.2.2.1.1]
theorem i_pg (h : INV M C) (hp : p < mP M) : RPg M C p := h.2.2.2.1 p hp
theorem i_nw (h : INV M C) (hp : p < mP M) : RNw M C p := h.2.2.2.2.1 p hp
theorem i_cp (h : INV M C) (hk : k < mC M) : RCp M C k := h.2.2.2.2.2.2.1 k hk
theorem i_L (h : INV M C) (hp : p < mP M) : cL C p = mL M p := by unfold cL mL; rw [(i_pg h hp).2.2.1]
theorem i_F (h : INV M C) (hk : k < mC M) : cF C k = mF M k := by unfold cF mF; rw [(i_cp h hk).2.1]
theorem i_E (h : INV M C) (hk : k < mC M) : cE C k = mE M k := by unfold cE mE; rw [(i_cp h hk).2.2.1]
theorem i_rv (h : INV M C) (hp : p < mP M) : M 13 p = -1 ∨ ∃ n, n < 2 ^ 31 ∧ M 13 p = nI n := by
  rcases h.2.2.2.2.2.2.2.2.1.2.2 p hp with e | ⟨n, hn, e⟩
  · exact Or.inl e
  · exact Or.inr ⟨n, by omega, e⟩
theorem n12 : ¬ (nI 1 : Int32) = 0 ∧ ¬ (nI 2 : Int32) = 0 ∧ ¬ (nI 1 : Int32) = nI 2 ∧ ¬ (1 : Int32) = 0 := by decide
theorem i_St (h : INV M C) (hp : p < mP M) : M 12 p = nI (cSt C p) := by
  obtain ⟨c1, c2, c3, c4⟩ := n12
  unfold cSt
  rcases i_nw h hp with ⟨h1, h2, h3, -⟩ | ⟨h1, h2, h3, -⟩ | ⟨h1, h2, h3, -⟩
  · rw [h1, h2, h3, ifN_f (fun q => q rfl), ifN_t c4]; rfl
  · rw [h1, h2, h3, ifN_f (fun q => q rfl), ifN_f (fun q => q rfl)]
  · rw [h1, h2, ifN_t c4]
theorem i_St1 (h : INV M C) (hp : p < mP M) : cSt C p = 1 ↔ M 12 p = nI 1 := by
  have b : cSt C p < 3 := by
    unfold cSt ifN; split <;> (try split) <;> decide
  rw [i_St h hp]; exact ((nI_eq (by omega) (by decide)).symm)
theorem i_St2 (h : INV M C) (hp : p < mP M) : ¬ C 14 p = 0 ↔ M 12 p = nI 2 := by
  obtain ⟨c1, c2, c3, c4⟩ := n12
  rcases i_nw h hp with ⟨h1, h2, h3, -⟩ | ⟨h1, h2, h3, -⟩ | ⟨h1, h2, h3, -⟩
  · rw [h1, h2]; exact ⟨fun q => absurd rfl q, fun q => absurd q.symm c2⟩
  · rw [h1, h2]; exact ⟨fun q => absurd rfl q, fun q => absurd q c3⟩
  · rw [h1, h2]; exact ⟨fun _ => rfl, fun _ => c4⟩
theorem i_St0 (h : INV M C) (hp : p < mP M) : ¬ C 17 p = 0 ↔ M 12 p = 0 := by
  obtain ⟨c1, c2, c3, c4⟩ := n12
  rcases i_nw h hp with ⟨h1, h2, h3, -⟩ | ⟨h1, h2, h3, -⟩ | ⟨h1, h2, h3, -⟩
  · rw [h1, h3]; exact ⟨fun _ => rfl, fun _ => c4⟩
  · rw [h1, h3]; exact ⟨fun q => absurd rfl q, fun q => absurd q c1⟩
  · rw [h1, h3]; exact ⟨fun q => absurd rfl q, fun q => absurd q c2⟩
theorem i_TB (h : INV M C) (hp : p < mP M) : cTB C p ↔ pTB M p := by
  obtain ⟨c1, c2, c3, c4⟩ := n12
  have bL := MI_b8 h.1 p
  obtain ⟨-, -, -, -, -, -, g7, g8, g9⟩ := i_pg h hp
  unfold cTB Lk pTB
  rcases i_nw h hp with ⟨h1, h2, h3, h4, h5⟩ | ⟨h1, h2, h3, -⟩ | ⟨h1, h2, h3, -⟩
  · rw [h3, g7, h1]
    refine ⟨fun q => ⟨rfl, fun l hl => ?_⟩, fun q => ⟨rfl, fun l hl => ?_⟩⟩
    · rw [← h4 l hl, ← (g8 l hl).2]; exact q.2 l (by omega)
    · by_cases hl2 : l < mL M p
      · rw [h4 l hl2, (g8 l hl2).2]; exact q.2 l hl2
      · rw [h5 l (by omega) hl, g9 l (by omega) hl]
  · rw [h3, g7, h1]; exact ⟨fun q => absurd q.1.symm c4, fun q => absurd q.1 c1⟩
  · rw [h3, g7, h1]; exact ⟨fun q => absurd q.1.symm c4, fun q => absurd q.1 c2⟩
theorem i_Fi (h : INV M C) (hk : k < mC M) (h19 : M 19 k = 0) (hp : p < 80) : ¬ C (44 + 8 * k) p = 0 ↔ pSt M k p := by
  obtain ⟨c1, c2, c3, c4⟩ := n12
  obtain ⟨s1, s2⟩ := (i_cp h hk).2.2.2.2.2 h19 p hp
  unfold pSt
  by_cases q : pHas M k p
  · rcases s1 q with ⟨h1, h2, -⟩ | ⟨h1, h2, -⟩
    · rw [h1, h2]; exact ⟨fun r => absurd rfl r, fun r => absurd rfl r.2⟩
    · rw [h1, h2]; exact ⟨fun _ => ⟨q, c4⟩, fun _ => c4⟩
  · rw [s2 q]; exact ⟨fun r => absurd rfl r, fun r => absurd r.1 q⟩
theorem i_TK (h : INV M C) (hk : k < mC M) (h19 : M 19 k = 0) (hp : p < mP M) : cTK C k p ↔ pTI M k p := by
  obtain ⟨c1, c2, c3, c4⟩ := n12
  have bL := MI_b8 h.1 p
  have bP := MI_b5 h.1
  obtain ⟨-, -, -, -, -, -, g7, g8, g9⟩ := i_pg h hp
  obtain ⟨s1, s2⟩ := (i_cp h hk).2.2.2.2.2 h19 p (by omega)
  unfold cTK Lk pTI pSt
  by_cases q : pHas M k p
  · rcases s1 q with ⟨h1, h2, -⟩ | ⟨h1, h2, h4, h5⟩
    · rw [h1, h2, g7]; exact ⟨fun r => absurd r.1.symm c4, fun r => absurd rfl r.1.2⟩
    · rw [h1, h2, g7]
      refine ⟨fun r => ⟨⟨q, c4⟩, fun l hl => ?_⟩, fun r => ⟨rfl, fun l hl => ?_⟩⟩
      · rw [← h4 l hl, ← (g8 l hl).2]; exact r.2 l (by omega)
      · by_cases hl2 : l < mL M p
        · rw [h4 l hl2, (g8 l hl2).2]; exact r.2 l hl2
        · rw [h5 l (by omega) hl, g9 l (by omega) hl]
  · rw [s2 q, g7]; exact ⟨fun r => absurd r.1.symm c4, fun r => absurd r.1.1 q⟩
theorem i_28 (h : INV M C) (hk : k < mC M) : C 28 k = 1 ↔ M 19 k = 0 := by
  rcases (i_cp h hk).2.2.2.1 with ⟨h1, h2⟩ | ⟨h1, h2⟩
  · exact ⟨fun _ => h2, fun _ => h1⟩
  · exact ⟨fun q => absurd q h1, fun q => absurd q h2⟩
theorem i_43 (h : INV M C) (hk : k < mC M) : ¬ C (43 + 8 * k) 0 = 0 ↔ M 20 k = 0 := by
  obtain ⟨c1, c2, c3, c4⟩ := n12
  rcases (i_cp h hk).2.2.2.2.1 with ⟨h1, h2⟩ | ⟨h1, h2⟩
  · rw [h1]; exact ⟨fun _ => h2, fun _ => c4⟩
  · rw [h1]; exact ⟨fun q => absurd rfl q, fun q => absurd q h2⟩
theorem i_Cx {x : Int32} (h : INV M C) : cCx C x ↔ pCx M x := by
  unfold cCx pCx pCp
  rw [i_M h]
  exact ⟨fun ⟨j, h1, h2, h3⟩ => ⟨j, h1, h2, (i_28 h h2).mp h3⟩, fun ⟨j, h1, h2, h3⟩ => ⟨j, h1, h2, (i_28 h h2).mpr h3⟩⟩
theorem i_HT (h : INV M C) (hp : p < mP M) {x v : Int32} (hv : x = 0 ↔ ¬ v = 0) : cHT C p x ↔ pFd M p v := by
  unfold cHT pFd
  rw [i_M h]
  refine ⟨fun ⟨k, hk, h1, h2, h3⟩ => ⟨k, hk, (i_28 h hk).mp h1, fun q => ?_, (i_TK h hk ((i_28 h hk).mp h1) hp).mp h3⟩, fun ⟨k, hk, h1, h2, h3⟩ => ⟨k, hk, (i_28 h hk).mpr h1, ?_, (i_TK h hk h1 hp).mpr h3⟩⟩
  · rcases h2 with h2 | h2
    · exact (i_43 h hk).mp h2
    · exact absurd (hv.mpr q) h2
  · by_cases q : x = 0
    · exact Or.inl ((i_43 h hk).mpr (h2 (hv.mp q)))
    · exact Or.inr q
end
