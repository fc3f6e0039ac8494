/-! copies: rot, carry, throwAway, strike -/
theorem INV_cp {M M' C C' : zMS} (h : INV M C) (hM : ∀ f, f ≠ 19 → f ≠ 20 → f ≠ 21 → M' f = M f) (hC : ∀ f, f < 28 → C' f = C f) (hI' : MI M') (hC' : CI C') (hcp : ∀ k, k < mC M → RCp M' C' k) (hba' : RBa M') : INV M' C' := by
  obtain ⟨hI, hCC, hs, hpg, hnw, hby, hcp0, hct, hdy, hba⟩ := h
  have ep : mP M' = mP M := mP_f (hM 5 (by omega) (by omega) (by omega))
  have ec : mC M' = mC M := mC_f (hM 15 (by omega) (by omega) (by omega))
  exact ⟨hI', hC', RSc_f (fun f hf => hM f (by omega) (by omega) (by omega)) (fun f hf => hC f (by omega)) hs, fun p hp => RPg_f hI (fun f hf => hM f (by omega) (by omega) (by omega)) (fun f hf => hC f (by omega)) (hpg p (ep ▸ hp)), fun p hp => RNw_f hI (fun f hf => hM f (by omega) (by omega) (by omega)) (fun f hf => hC f (by omega)) (hnw p (ep ▸ hp)), RBy_f (fun f hf => hM f (by omega) (by omega) (by omega)) (fun f hf => hC f (by omega)) hby, fun k hk => hcp k (ec ▸ hk), RCt_f (fun f h1 h2 => hM f (by omega) (by omega) (by omega)) (fun f h1 h2 => hC f (by omega)) hct, RDy_f (fun f hf => hM f (by omega) (by omega) (by omega)) hdy, hba'⟩
/-- page j blanked in the sheet of copy c -/
theorem RSh_bl {M C : zMS} {c j k p : Nat} {v : Int32} (hI : MI M) (hp : p < 80) (hj : j < 80) (hv : v = 0 ∨ (v = M 21 (80 * c + j) ∧ (pHas M c j → M 21 (80 * c + j) = 0))) (h : RSh M C k p) : RSh (up2 M 21 (80 * c + j) v) (blC C (44 + 8 * c) (45 + 8 * c) j) k p := by
  by_cases e : k = c ∧ p = j
  · obtain ⟨rfl, rfl⟩ := e
    refine ⟨fun q => Or.inl ⟨?_, blC_f (by omega), fun l hl => blC_v hl⟩, fun q => blC_f (by omega)⟩
    rw [up2_s]
    rcases hv with hv | ⟨hv, hz⟩
    · exact hv
    · rw [hv]; exact hz q
  · refine RSh_cg hI (fun _ => rfl) rfl rfl (fun _ => by rw [up2_i (by omega)]) (fun _ l _ => rfl) ?_ (fun _ l hl => ?_) h
    · by_cases ek : k = c
      · subst ek; exact blC_fo (by omega) (fun q => e ⟨rfl, q⟩)
      · rw [blC_k (by omega)]
    · by_cases ek : k = c
      · subst ek; exact blC_o (by omega) (by omega)
      · rw [blC_k (by omega)]
theorem RCp_bl {M C : zMS} {c j k : Nat} {v : Int32} (hI : MI M) (hj : j < 80) (hv : v = 0 ∨ (v = M 21 (80 * c + j) ∧ (pHas M c j → M 21 (80 * c + j) = 0))) (h : RCp M C k) : RCp (up2 M 21 (80 * c + j) v) (blC C (44 + 8 * c) (45 + 8 * c) j) k :=
  RCp_cg hI rfl rfl rfl rfl rfl (by rw [blC_k (by omega)]) (fun f hf => by rw [blC_k (by omega)]) (fun _ p hp hs => RSh_bl hI hp hj hv hs) h
theorem RBa_21 {M : zMS} {i : Nat} {v : Int32} (h : RBa M) : RBa (up2 M 21 i v) := RBa_f (fun f hf => up2_k (by omega)) h
theorem INV_bl {M C : zMS} {c j : Nat} {v : Int32} (h : INV M C) (hj : j < 80) (hv : v = 0 ∨ (v = M 21 (80 * c + j) ∧ (pHas M c j → M 21 (80 * c + j) = 0))) : INV (up2 M 21 (80 * c + j) v) (blC C (44 + 8 * c) (45 + 8 * c) j) :=
  INV_cp h (fun f h1 h2 h3 => up2_k h3) (fun f hf => blC_k (by omega)) (MI_ub h.1 (by omega) (hv.elim Or.inl (fun q => q.1 ▸ MI_z21 h.1 _))) (CI_blC h.2.1 (by omega) (by omega)) (fun k hk => RCp_bl h.1 hj hv (i_cp h hk)) (RBa_21 h.2.2.2.2.2.2.2.2.2)
theorem INV_fl {M C : zMS} {c : Nat} {v w : Int32} (h : INV M C) (hvw : (v = 0 ∧ w = 1) ∨ (v = 1 ∧ w = 0)) : INV (up2 M 20 c v) (up2 C (43 + 8 * c) 0 w) := by
  obtain ⟨c1, c2, c3, c4⟩ := n12
  refine INV_cp h (fun f h1 h2 h3 => up2_k h2) (fun f hf => up2_k (by omega)) (MI_ub h.1 (by omega) (hvw.elim (fun q => Or.inl q.1) (fun q => Or.inr q.1))) (CI_43u h.2.1 (hvw.elim (fun q => Or.inr q.2) (fun q => Or.inl q.2))) (fun k hk => ?_) (RBa_f (fun f hf => up2_k (by omega)) h.2.2.2.2.2.2.2.2.2)
  obtain ⟨h1, h2, h3, h4, h5, h6⟩ := i_cp h hk
  refine ⟨by rw [up2_k (by omega)]; exact h1, by rw [up2_k (by omega)]; exact h2, by rw [up2_k (by omega)]; exact h3, by rw [up2_k (by omega)]; exact h4, ?_, fun q p hp => RSh_cg h.1 (fun _ => rfl) rfl rfl (fun _ => rfl) (fun _ l _ => rfl) (by rw [up2_k (by omega)]) (fun _ l _ => by rw [up2_k (by omega)]) (h6 q p hp)⟩
  by_cases e : k = c
  · subst e
    rw [up2_s, up2_s]
    rcases hvw with ⟨rfl, rfl⟩ | ⟨rfl, rfl⟩
    · exact Or.inl ⟨rfl, rfl⟩
    · exact Or.inr ⟨rfl, c4⟩
  · rw [up2_i e, up2_k (by omega)]; exact h5
theorem caN_20 {M : zMS} {c : Nat} {v : Int32} : ∀ {i : Nat}, caN (up2 M 20 c v) c i = up2 (caN M c i) 20 c v
  | 0 => rfl
  | i + 1 => by
    rw [caN, caN, caN_20]
    show up2 (up2 (caN M c i) 20 c v) 21 (80 * c + i) (ifI (M 12 i = nI 2 ∧ pSt M c i) (nI 0) (M 21 (80 * c + i))) = _
    funext f q
    by_cases h1 : f = 21
    · subst h1; rw [up2_k (show 21 ≠ 20 by omega), up2_a, up2_a, up2_k (show 21 ≠ 20 by omega)]
    · by_cases h2 : f = 20
      · subst h2; rw [up2_k (show 20 ≠ 21 by omega), up2_a, up2_a, up2_k (show 20 ≠ 21 by omega)]
      · rw [up2_k h1, up2_k h2, up2_k h2, up2_k h1]
theorem INV_ca {M C : zMS} {c : Nat} (h : INV M C) (hc : c < mC M) (h19 : M 19 c = 0) : ∀ {i : Nat}, i ≤ mP M → INV (caN M c i) (bkN C c (min i (mE M c) - mF M c)) ∧ bkK C c (min i (mE M c) - mF M c) = zcnt (fun p => M 12 p = nI 2 ∧ pSt M c p) i
  | 0, _ => by
    rw [Nat.zero_min, Nat.zero_sub]; exact ⟨h, rfl⟩
  | i + 1, hi => by
    obtain ⟨h1, h2⟩ := INV_ca h hc h19 (i := i) (by omega)
    have bP := MI_b5 h.1
    have hFE := h.2.2.2.2.2.2.2.2.2.2 c hc
    have eF := i_F h hc
    have e21 : caN M c i 21 (80 * c + i) = M 21 (80 * c + i) := caN_o M c i (Or.inr (Nat.le_refl _))
    have eC : mC (caN M c i) = mC M := mC_f (caN_k M c (by omega) i)
    by_cases q : mF M c ≤ i ∧ i < mE M c
    · have e1 : min (i + 1) (mE M c) - mF M c = (min i (mE M c) - mF M c) + 1 := by omega
      have e2 : cF C c + (min i (mE M c) - mF M c) = i := by rw [eF]; omega
      have hn := i_nw h (p := i) (by omega)
      rw [e1]
      by_cases s : M 12 i = nI 2
      · have s14 : ¬ C 14 i = 0 := (i_St2 h (p := i) (by omega)).mpr s
        rw [← bkN_y (by rw [e2]; exact s14), e2, caN]
        refine ⟨INV_bl h1 (by omega) ?_, ?_⟩
        · by_cases t : pSt M c i
          · exact Or.inl (by rw [ifI_t ⟨s, t⟩]; rfl)
          · refine Or.inr ⟨by rw [ifI_f (fun r => t r.2), e21], fun _ => ?_⟩
            rw [e21]
            rcases MI_z21 h.1 (80 * c + i) with z | z
            · exact z
            · exact absurd ⟨q, by rw [z]; decide⟩ t
        · rw [bkK, zcnt, h2, e2]
          have f1 := i_Fi h1 (k := c) (p := i) (by rw [eC]; exact hc) (by rw [caN_k M c (by omega)]; exact h19) (by omega)
          rw [ifN_cg (show (¬ C 14 i = 0 ∧ ¬ bkN C c (min i (mE M c) - mF M c) (44 + 8 * c) i = 0) ↔ (M 12 i = nI 2 ∧ pSt M c i) from ⟨fun r => ⟨s, by have := f1.mp r.2; rw [caN_St] at this; exact this⟩, fun r => ⟨s14, f1.mpr (by rw [caN_St]; exact r.2)⟩⟩)]
      · have s14 : C 14 i = 0 := Classical.byContradiction (fun r => s ((i_St2 h (p := i) (by omega)).mp r))
        rw [← bkN_n (by rw [e2]; exact s14), ← caN_n (fun r => s r.1)]
        refine ⟨h1, ?_⟩
        rw [← bkK_n (fun r => r.1 (by rw [e2]; exact s14)), ← zcnt_n (P := fun p => M 12 p = nI 2 ∧ pSt M c p) (fun r => s r.1)]
        exact h2
    · have e1 : min (i + 1) (mE M c) - mF M c = min i (mE M c) - mF M c := by omega
      have nh : ¬ pSt M c i := fun r => q r.1
      rw [e1, ← caN_n (fun r => nh r.2), ← zcnt_n (P := fun p => M 12 p = nI 2 ∧ pSt M c p) (fun r => nh r.2)]
      exact ⟨h1, h2⟩
theorem INV_thr {M C : zMS} {c : Nat} (h : INV M C) (hb : ¬ pBase M (nI c)) (hc : c < mC M) : INV (up2 M 19 c (nI 1)) (up2 C 28 c (nI 0)) := by
  obtain ⟨c1, c2, c3, c4⟩ := n12
  have b15 := MI_b15 h.1
  obtain ⟨a1, a2⟩ := h.2.2.2.2.2.2.2.2.2
  obtain ⟨hI, hCC, hs, hpg, hnw, hby, hcp0, hct, hdy, hba⟩ := h
  refine ⟨MI_ub hI (by omega) (Or.inr rfl), CI_28u hCC, RSc_f (fun f hf => up2_k (by omega)) (fun f hf => up2_k (by omega)) hs, fun p hp => RPg_f hI (fun f hf => up2_k (by omega)) (fun f hf => up2_k (by omega)) (hpg p hp), fun p hp => RNw_f hI (fun f hf => up2_k (by omega)) (fun f hf => up2_k (by omega)) (hnw p hp), RBy_f (fun f hf => up2_k (by omega)) (fun f hf => up2_k (by omega)) hby, fun k hk => ?_, RCt_f (fun f h1 h2 => up2_k (by omega)) (fun f h1 h2 => up2_k (by omega)) hct, RDy_f (fun f hf => up2_k (by omega)) hdy, ⟨fun k hk => ?_, a2⟩⟩
  · obtain ⟨h1, h2, h3, h4, h5, h6⟩ := hcp0 k hk
    refine ⟨by rw [up2_k (by omega)]; exact h1, by rw [up2_k (by omega)]; exact h2, by rw [up2_k (by omega)]; exact h3, ?_, by rw [up2_k (by omega)]; exact h5, fun q p hp => ?_⟩
    · by_cases e : k = c
      · subst e; rw [up2_s, up2_s]; exact Or.inr ⟨by decide, by decide⟩
      · rw [up2_i e, up2_i e]; exact h4
    · by_cases e : k = c
      · subst e; rw [up2_s] at q; exact absurd q (by decide)
      · rw [up2_i e] at q
        exact RSh_cg hI (fun _ => rfl) rfl rfl (fun _ => rfl) (fun _ l _ => rfl) (by rw [up2_k (by omega)]) (fun _ l _ => by rw [up2_k (by omega)]) (h6 q p hp)
  · have hk' : k < mC M := hk
    rcases a1 k hk' with e | ⟨d, hd, e, hpr⟩
    · exact Or.inl e
    · refine Or.inr ⟨d, hd, e, fun q => ?_⟩
      by_cases ek : k = c
      · subst ek; rw [up2_s] at q; exact absurd q (by decide)
      · rw [up2_i ek] at q
        by_cases ed : d = c
        · exact absurd ⟨k, hk', q, by rw [e, ed]⟩ hb
        · rw [up2_i ed]; exact hpr q
/-! a page struck -/
theorem MI_of12 {M : zMS} {p : Nat} {v : Int32} (h : MI (up2 M 12 p v)) : MI M := MI_cg h (fun k hk => (up2_k (by omega)).symm)
theorem INV_st {M C : zMS} {p : Nat} (h : INV M C) (hp : p < mP M) : INV (up2 M 12 p (nI 2)) (stC C p) := by
  have bP := MI_b5 h.1
  refine INV_nw h (fun f h1 h2 => up2_k h2) (fun f h1 h2 h3 => by unfold stC; rw [blC_k ⟨h2, h3⟩, up2_k h1]) (MI_r h.1 (by omega)) (CI_blC (CI_z h.2.1 (by omega) (Or.inr rfl)) (Or.inl rfl) (Or.inl rfl)) (fun q hq => ?_) (fun q h1 h2 => ⟨by unfold stC; rw [blC_k (by omega), up2_i (by omega)], fun l hl => by unfold stC; rw [blC_o (by omega) (by omega), up2_k (by omega)]⟩)
  exact RNw_bl h.1 (fun f hf => up2_k hf) (fun q hq => up2_i hq) (Or.inr ⟨rfl, by rw [up2_s]; rfl⟩) (fun _ => i_nw h hq)
theorem INV_sk {M C : zMS} {p : Nat} (h : INV (up2 M 12 p (nI 2)) C) (hp : p < 80) : ∀ {i : Nat}, i ≤ mC M → INV (skN M p i) (bvN C p i)
  | 0, _ => h
  | i + 1, hi => by
    have h1 := INV_sk h hp (i := i) (by omega)
    have eC : mC (skN M p i) = mC M := mC_f (skN_k M p (by omega) i)
    have e20 : skN M p i 20 = M 20 := skN_k M p (by omega) i
    have e19 : skN M p i 19 = M 19 := skN_k M p (by omega) i
    have e21 : skN M p i 21 (80 * i + p) = M 21 (80 * i + p) := skN_o M hp i (Nat.le_refl _)
    have f28 := i_28 h1 (k := i) (by rw [eC]; omega)
    have f43 := i_43 h1 (k := i) (by rw [eC]; omega)
    rw [bvN_k C p (by omega), e19] at f28
    rw [bvN_k C p (by omega), e20] at f43
    by_cases a : M 19 i = 0
    · by_cases b : M 20 i = 0
      · rw [← bvN_y ⟨f28.mpr a, f43.mpr b⟩, skN]
        refine INV_bl h1 hp ?_
        by_cases t : pHas M i p
        · exact Or.inl (by rw [ifI_t ⟨b, t⟩]; rfl)
        · exact Or.inr ⟨by rw [ifI_f (fun r => t r.2), e21], fun r => absurd (skN_Has.mp r) t⟩
      · rw [← bvN_n (fun r => b (f43.mp r.2)), ← skN_n hp (fun r => b r.1)]
        exact h1
    · rw [← bvN_n (fun r => a (f28.mp r.1)), skN]
      refine INV_cp h1 (fun f q1 q2 q3 => up2_k q3) (fun f _ => rfl) (MI_ub h1.1 (by omega) (ifI_01 (Or.inl rfl) (MI_z21 (MI_of12 h.1) _))) h1.2.1 (fun k hk => ?_) (RBa_21 h1.2.2.2.2.2.2.2.2.2)
      obtain ⟨r1, r2, r3, r4, r5, r6⟩ := i_cp h1 hk
      refine ⟨r1, r2, r3, r4, r5, fun q j hj => ?_⟩
      by_cases ek : k = i
      · subst ek
        have q' : skN M p k 19 k = 0 := q
        rw [e19] at q'; exact absurd q' a
      · exact RSh_cg h1.1 (fun _ => rfl) rfl rfl (fun _ => by rw [up2_i (by omega)]) (fun _ l _ => rfl) rfl (fun _ l _ => rfl) (r6 q j hj)
theorem skN_st {M : zMS} {p k : Nat} (hp : p < 80) : ∀ {i : Nat}, k + 1 ≤ i → skN M p i 21 (80 * k + p) = skN M p (k + 1) 21 (80 * k + p)
  | 0, h => absurd h (Nat.not_succ_le_zero _)
  | i + 1, h => by
    by_cases e : i = k
    · subst e; rfl
    · rw [skN, up2_i (by omega)]; exact skN_st hp (by omega)
