/-! the other calls keep it -/
theorem K_passes {C : zMS} {x : Int32} (h : KV C) (g0 : ¬ x < nI 1 ∧ x ≤ nI 100) (g1 : nI (cT C) + x ≤ nI 400) : KV (up2 C 0 0 (nI (cT C) + x)) := by
  have bT := CI_b0 (KV_I h)
  obtain ⟨d, hd, rfl⟩ := nI_of2 (x := x) (M := nI 100) (n := 100) (by decide) (fun q => g0.1 (Int32.lt_trans q (by decide))) g0.2
  rw [nI_add] at g1 ⊢
  refine KV_cg ?_ (fun f h0 _ _ _ _ => up2_k h0) h
  obtain ⟨M, hM⟩ := h.1
  exact ⟨_, INV_pass hM (by rw [i_T hM]; omega) ((nI_leI (by omega) (by omega)).mp g1)⟩
theorem K_burns {C : zMS} {a b : Nat} (h : KV C) (hb : a + b ≤ cP C) : KV (brN C a b) := by
  refine KV_cg ?_ (fun f _ _ h1 h2 _ => brN_k C a ⟨h1, h2⟩ b) h
  obtain ⟨M, hM⟩ := h.1
  exact ⟨_, (INV_burn hM (by rw [← i_P hM]; exact hb)).1⟩
theorem K_alters {C : zMS} {p l : Nat} {z : Int32} (h : KV C) (hp : p < cP C) (g3 : ¬ C 17 p = 0 ∧ l < cL C p) : KV (up2 C 18 (p * 4 + l) z) := by
  refine KV_cg ?_ (fun f _ _ _ h2 _ => up2_k h2) h
  obtain ⟨M, hM⟩ := h.1
  have hp' : p < mP M := by rw [← i_P hM]; exact hp
  refine ⟨_, INV_alter hM hp' ?_ (by rw [← i_L hM hp']; exact g3.2)⟩
  rcases i_nw hM hp' with ⟨q, -⟩ | ⟨-, -, q, -⟩ | ⟨-, -, q, -⟩
  · exact q
  · exact absurd q g3.1
  · exact absurd q g3.1
theorem K_sn {C : zMS} (h : KV C) {p : Nat} (hp : p < cP C) (h14 : ¬ C 14 p = 0) : C 17 p = 0 := by
  obtain ⟨M, hM⟩ := h.1
  rcases i_nw hM (by rw [← i_P hM]; exact hp) with ⟨-, q, -⟩ | ⟨-, q, -⟩ | ⟨-, -, q, -⟩
  · exact absurd q h14
  · exact absurd q h14
  · exact q
theorem mkC_k {C : zMS} {b : Int32} {f fl : Nat} (h : (fl < 40 + 8 * cM C ∨ 46 + 8 * cM C ≤ fl) ∧ fl ≠ 20 ∧ fl ≠ 28) : mkC C b f fl = C fl := by
  unfold mkC
  rw [up2_k h.2.1, up2_k h.2.2, mkN_k _ _ _ (by omega), nwC_k (by omega)]
theorem mkC_28 {C : zMS} {b : Int32} {f j : Nat} (h : j ≠ cM C) : mkC C b f 28 j = C 28 j := by
  unfold mkC
  rw [up2_k (show 28 ≠ 20 by omega), up2_i h, mkN_k _ _ _ (by omega), nwC_k (by omega)]
theorem K_copies {C : zMS} {b : Int32} {f : Nat} (h : KV C) (hM16 : cM C < 16) (hI : ∃ M, INV M (mkC C b f)) : KV (mkC C b f) := by
  have bP := CI_b19 (KV_I h)
  refine ⟨hI, Pg1_f (fun f hf => mkC_k (by omega)) h.2.1, Pg2_f (fun f hf => mkC_k (by omega)) h.2.2.1, RvK_f (fun f hf => mkC_k (by omega)) h.2.2.2.1, ?_⟩
  intro k hk h1 h2 p hp h3
  rw [mkC_M hM16] at hk
  rw [mkC_k (by omega)] at h3
  by_cases q : k = cM C
  · subst q
    unfold mkC
    rw [up2_k (by omega), up2_k (by omega)]
    by_cases r : f ≤ p ∧ p < f + (cP C - f)
    · have e := mkN_a (C := nwC C (cM C) b f) (k := cM C) (f := f) (i := cP C - f) (q := p - f) (by omega)
      rw [show f + (p - f) = p by omega, nwC_k (fl := 17) (by omega)] at e
      rw [e]; exact K_sn h (by omega) h3
    · rw [mkN_b (by omega), nwC_4]; rfl
  · rw [mkC_28 q] at h1
    rw [mkC_k (by omega)] at h2
    rw [mkC_k (by omega)]
    exact h.2.2.2.2 k (by omega) h1 h2 p hp h3
theorem K_cx {C M : zMS} (hM : INV M C) {k : Nat} (hk : k < cM C) (h1 : C 28 k = 1) : k < mC M ∧ M 19 k = 0 := by
  have hk' : k < mC M := by rw [← i_M hM]; exact hk
  refine ⟨hk', ?_⟩
  rcases (i_cp hM hk').2.2.2.1 with ⟨-, q⟩ | ⟨q, -⟩
  · exact q
  · exact absurd h1 q
theorem K_copies0 {C : zMS} (h : KV C) (g0 : cM C < 16 ∧ zcnt (fun p => cSt C p = 1) (cP C) = 0) : KV (mkC C (-1) 0) := by
  refine K_copies h g0.1 ?_
  obtain ⟨M, hM⟩ := h.1
  exact ⟨_, INV_copy hM (by rw [← i_M hM]; exact g0.1) (Nat.zero_le _) (Or.inl rfl)⟩
theorem K_copiesK {C : zMS} {k : Nat} (h : KV C) (hk : k < cM C) (h1 : C 28 k = 1) (g0 : cM C < 16 ∧ zcnt (fun p => cSt C p = 1) (cP C) = 0) : KV (mkC C (nI k) (cE C k)) := by
  refine K_copies h g0.1 ?_
  obtain ⟨M, hM⟩ := h.1
  obtain ⟨hk', h19⟩ := K_cx hM hk h1
  exact ⟨_, INV_copy hM (by rw [← i_M hM]; exact g0.1) (by rw [i_E hM hk']; exact (hM.2.2.2.2.2.2.2.2.2.2 k hk').2) (Or.inr ⟨k, hk', rfl, h19⟩)⟩
theorem K_carry0 {C : zMS} {c : Nat} (h : KV C) : KV (up2 C (43 + 8 * c) 0 (nI 0)) := by
  refine ⟨h.1.elim (fun _ q => ⟨_, INV_fl (v := nI 1) (w := nI 0) q (Or.inr ⟨rfl, rfl⟩)⟩), Pg1_f (fun f hf => up2_k (by omega)) h.2.1, Pg2_f (fun f hf => up2_k (by omega)) h.2.2.1, RvK_f (fun f hf => up2_k (by omega)) h.2.2.2.1, ?_⟩
  intro k hk h1 h2 p hp h3
  unfold cM at hk
  rw [up2_k (by omega)] at hk h1 h3 ⊢
  by_cases q : k = c
  · subst q; rw [up2_s] at h2; exact absurd rfl h2
  · rw [up2_k (by omega)] at h2; exact h.2.2.2.2 k hk h1 h2 p hp h3
theorem bkN_o {C : zMS} {k p : Nat} : ∀ {i : Nat}, (p < cF C k ∨ cF C k + i ≤ p) → bkN C k i (44 + 8 * k) p = C (44 + 8 * k) p
  | 0, _ => rfl
  | i + 1, h => by
    rw [bkN]
    split
    · exact bkN_o (by omega)
    · rw [blC_fo (by omega) (by omega)]; exact bkN_o (by omega)
theorem bkN_v {C : zMS} {k q : Nat} (h14 : ¬ C 14 (cF C k + q) = 0) : ∀ {i : Nat}, q < i → bkN C k i (44 + 8 * k) (cF C k + q) = 0
  | 0, h => absurd h (Nat.not_lt_zero q)
  | i + 1, h => by
    rw [bkN]
    by_cases e : q = i
    · subst e; rw [if_neg h14, blC_f (by omega)]
    · split
      · exact bkN_v h14 (by omega)
      · rw [blC_fo (by omega) (by omega)]; exact bkN_v h14 (by omega)
theorem K_in {C : zMS} (h : KV C) {k p : Nat} (hk : k < cM C) (h1 : C 28 k = 1) (hp : p < 80) (hs : ¬ C (44 + 8 * k) p = 0) : cF C k ≤ p ∧ p < cE C k := by
  obtain ⟨M, hM⟩ := h.1
  obtain ⟨hk', h19⟩ := K_cx hM hk h1
  have r := (i_cp hM hk').2.2.2.2.2 h19 p hp
  rw [i_F hM hk', i_E hM hk']
  exact Classical.byContradiction (fun q => hs (r.2 q))
theorem K_carry1 {C : zMS} {c : Nat} (h : KV C) (hc : c < cM C) (h28 : C 28 c = 1) : KV (bkN (cvC C c) c (cE (cvC C c) c - cF (cvC C c) c)) := by
  have eE : cE (cvC C c) c = cE C c := by unfold cE cvC; rw [up2_k (by omega)]
  have eF : cF (cvC C c) c = cF C c := by unfold cF cvC; rw [up2_k (by omega)]
  have kk : ∀ f, f ≠ 43 + 8 * c → f ≠ 44 + 8 * c → f ≠ 45 + 8 * c → bkN (cvC C c) c (cE (cvC C c) c - cF (cvC C c) c) f = C f := fun f a1 a2 a3 => by rw [bkN_k _ _ ⟨a2, a3⟩]; unfold cvC; exact up2_k a1
  refine ⟨?_, Pg1_f (fun f hf => kk f (by omega) (by omega) (by omega)) h.2.1, Pg2_f (fun f hf => kk f (by omega) (by omega) (by omega)) h.2.2.1, RvK_f (fun f hf => kk f (by omega) (by omega) (by omega)) h.2.2.2.1, ?_⟩
  · obtain ⟨M, hM⟩ := h.1
    obtain ⟨hk', h19⟩ := K_cx hM hc h28
    have h1 : INV (up2 M 20 c (nI 0)) (cvC C c) := INV_fl hM (Or.inl ⟨rfl, rfl⟩)
    have hk2 : c < mC (up2 M 20 c (nI 0)) := hk'
    have := (INV_ca h1 (c := c) hk2 h19 (i := mP M) (Nat.le_refl _)).1
    have hFE := hM.2.2.2.2.2.2.2.2.2.2 c hk'
    have em : min (mP M) (mE (up2 M 20 c (nI 0)) c) - mF (up2 M 20 c (nI 0)) c = cE (cvC C c) c - cF (cvC C c) c := by
      rw [i_E h1 hk2, i_F h1 hk2]
      have : mE (up2 M 20 c (nI 0)) c = mE M c := rfl
      rw [this]; omega
    rw [em] at this
    exact ⟨_, this⟩
  · intro k hk h1 h2 p hp h3
    unfold cM at hk
    rw [kk 20 (by omega) (by omega) (by omega)] at hk
    rw [kk 28 (by omega) (by omega) (by omega)] at h1
    rw [kk 14 (by omega) (by omega) (by omega)] at h3
    by_cases q : k = c
    · subst q
      have e14 : cvC C k 14 = C 14 := by unfold cvC; exact up2_k (by omega)
      have e44 : cvC C k (44 + 8 * k) = C (44 + 8 * k) := by unfold cvC; exact up2_k (by omega)
      by_cases r : cF C k ≤ p ∧ p < cE C k
      · have := bkN_v (C := cvC C k) (k := k) (q := p - cF C k) (by rw [eF, e14, show cF C k + (p - cF C k) = p by omega]; exact h3) (i := cE (cvC C k) k - cF (cvC C k) k) (by rw [eF, eE]; omega)
        rw [eF, show cF C k + (p - cF C k) = p by omega] at this
        rw [eF]; exact this
      · rw [bkN_o (by rw [eF, eE]; omega), e44]
        exact Classical.byContradiction (fun z => r (K_in h hk h1 hp z))
    · rw [kk _ (by omega) (by omega) (by omega)] at h2 ⊢
      exact h.2.2.2.2 k hk h1 h2 p hp h3
theorem K_rots {C : zMS} {c j : Nat} (h : KV C) (hj : j < 80) : KV (blC C (44 + 8 * c) (45 + 8 * c) j) := by
  have kk : ∀ f, f ≠ 44 + 8 * c → f ≠ 45 + 8 * c → blC C (44 + 8 * c) (45 + 8 * c) j f = C f := fun f a1 a2 => blC_k ⟨a1, a2⟩
  refine ⟨h.1.elim (fun _ q => ⟨_, INV_bl (c := c) (j := j) q hj (Or.inl rfl)⟩), Pg1_f (fun f hf => kk f (by omega) (by omega)) h.2.1, Pg2_f (fun f hf => kk f (by omega) (by omega)) h.2.2.1, RvK_f (fun f hf => kk f (by omega) (by omega)) h.2.2.2.1, ?_⟩
  intro k hk h1 h2 p hp h3
  unfold cM at hk
  rw [kk 20 (by omega) (by omega)] at hk
  rw [kk 28 (by omega) (by omega)] at h1
  rw [kk 14 (by omega) (by omega)] at h3
  rw [kk (43 + 8 * k) (by omega) (by omega)] at h2
  have z := h.2.2.2.2 k hk h1 h2 p hp h3
  by_cases q : k = c
  · subst q
    by_cases r : p = j
    · subst r; exact blC_f (by omega)
    · rw [blC_fo (by omega) r]; exact z
  · rw [kk _ (by omega) (by omega)]; exact z
theorem K_throws {C : zMS} {c : Nat} (h : KV C) (hc : c < cM C) (h28 : C 28 c = 1) (hb : ¬ cIsB C c) : KV (up2 C 28 c (nI 0)) := by
  refine ⟨?_, Pg1_f (fun f hf => up2_k (by omega)) h.2.1, Pg2_f (fun f hf => up2_k (by omega)) h.2.2.1, RvK_f (fun f hf => up2_k (by omega)) h.2.2.2.1, ?_⟩
  · obtain ⟨M, hM⟩ := h.1
    obtain ⟨hk', h19⟩ := K_cx hM hc h28
    refine ⟨_, INV_thr hM (fun ⟨k, hk, h1, h2⟩ => hb ⟨k, by rw [i_M hM]; exact hk, ?_, ?_⟩) hk'⟩
    · rcases (i_cp hM hk).2.2.2.1 with ⟨q, -⟩ | ⟨-, q⟩
      · exact q
      · exact absurd h1 q
    · rw [(i_cp hM hk).1]; exact h2
  · intro k hk h1 h2 p hp h3
    unfold cM at hk
    rw [up2_k (by omega)] at hk h2 h3 ⊢
    have q : k ≠ c := fun e => by subst e; rw [up2_s] at h1; exact absurd h1 (by decide)
    rw [up2_i q] at h1
    exact h.2.2.2.2 k hk h1 h2 p hp h3
theorem K_chain {C M : zMS} (hM : INV M C) {c : Nat} (hc : c < cM C) (h28 : C 28 c = 1) : ∀ d, d ∈ chN (cBs C) c → d < mC M ∧ M 19 d = 0 := by
  obtain ⟨hk', h19⟩ := K_cx hM hc h28
  rw [i_ch hM hk']
  exact i_pr hM hk' h19
theorem K_restores {C : zMS} {c : Nat} (h : KV C) (hc : c < cM C) (h28 : C 28 c = 1) : KV (gbA (chN (cBs C) c) C) := by
  refine KV_cg ?_ (fun f _ _ h1 h2 _ => gbA_k ⟨h1, h2⟩ _ _) h
  obtain ⟨M, hM⟩ := h.1
  exact ⟨_, (INV_rsA hM rfl (K_chain hM hc h28)).1⟩
theorem K_opens {C : zMS} (h : KV C) (g0 : cK C < 8) : KV (up2 (up2 C 21 (cK C) (nI 1)) 22 0 (nI (cK C + 1))) := by
  refine KV_cg ?_ (fun f _ _ _ _ h5 => by rw [up2_k (by omega), up2_k (by omega)]) h
  obtain ⟨M, hM⟩ := h.1
  exact ⟨_, by have := INV_open hM (by rw [← i_K hM]; exact g0); rw [← i_K hM] at this; exact this⟩
theorem K_closes {C : zMS} {c : Nat} (h : KV C) : KV (up2 C 21 c (nI 0)) := by
  refine KV_cg ?_ (fun f _ _ _ _ h5 => up2_k (by omega)) h
  obtain ⟨M, hM⟩ := h.1
  exact ⟨_, INV_close hM⟩
theorem K_holds {C : zMS} {c : Nat} {y f t : Int32} (h : KV C) (hc : c < cK C) (g3 : cH C < 30) : KV (up2 (up2 (up2 (up2 (up2 C 23 (cH C) (nI c)) 24 (cH C) y) 25 (cH C) f) 26 (cH C) t) 27 0 (nI (cH C + 1))) := by
  refine KV_cg ?_ (fun f _ _ _ _ h5 => by rw [up2_k (by omega), up2_k (by omega), up2_k (by omega), up2_k (by omega), up2_k (by omega)]) h
  obtain ⟨M, hM⟩ := h.1
  exact ⟨_, by have := INV_hold (y := y) (f := f) (t := t) hM (by rw [← i_K hM]; exact hc) (by rw [← i_H hM]; exact g3); rw [← i_H hM] at this; exact this⟩
theorem bvN_p {C : zMS} {j k p : Nat} (hp : p ≠ j) : ∀ {i : Nat}, bvN C j i (44 + 8 * k) p = C (44 + 8 * k) p
  | 0 => rfl
  | i + 1 => by
    rw [bvN]
    split
    · by_cases q : k = i
      · subst q; rw [blC_fo (by omega) hp]; exact bvN_p hp
      · rw [blC_k (by omega)]; exact bvN_p hp
    · exact bvN_p hp
theorem bvN_v {C : zMS} {j k : Nat} (h : C 28 k = 1 ∧ ¬ C (43 + 8 * k) 0 = 0) : ∀ {i : Nat}, k < i → bvN C j i (44 + 8 * k) j = 0
  | 0, hk => absurd hk (Nat.not_lt_zero k)
  | i + 1, hk => by
    rw [bvN]
    by_cases q : k = i
    · subst q; rw [if_pos h, blC_f (by omega)]
    · split
      · rw [blC_k (by omega)]; exact bvN_v h (by omega)
      · exact bvN_v h (by omega)
theorem K_strikes {C : zMS} {j : Nat} (h : KV C) (hj : j < cP C) : KV (bvN (stC C j) j (cM (stC C j))) := by
  have bP := CI_b19 (KV_I h)
  have eM : cM (stC C j) = cM C := by unfold cM stC; rw [blC_k (by omega), up2_k (by omega)]
  have ks : ∀ f, f ≠ 14 → f ≠ 17 → f ≠ 18 → stC C j f = C f := fun f a1 a2 a3 => by unfold stC; rw [blC_k ⟨a2, a3⟩, up2_k a1]
  have kk : ∀ f, f ≠ 14 → f ≠ 17 → f ≠ 18 → (∀ k, f ≠ 44 + 8 * k ∧ f ≠ 45 + 8 * k) → bvN (stC C j) j (cM (stC C j)) f = C f := fun f a1 a2 a3 a4 => by rw [bvN_k _ _ a4, ks f a1 a2 a3]
  refine ⟨?_, Pg1_f (fun f hf => kk f (by omega) (by omega) (by omega) (by omega)) h.2.1, Pg2_f (fun f hf => kk f (by omega) (by omega) (by omega) (by omega)) h.2.2.1, RvK_f (fun f hf => kk f (by omega) (by omega) (by omega) (by omega)) h.2.2.2.1, ?_⟩
  · obtain ⟨M, hM⟩ := h.1
    have h0 := INV_st hM (p := j) (by rw [← i_P hM]; exact hj)
    have h1 := INV_sk h0 (by omega) (i := mC M) (Nat.le_refl _)
    rw [eM, i_M hM]
    exact ⟨_, h1⟩
  · intro k hk h1 h2 p hp h3
    have eM2 : cM (bvN (stC C j) j (cM (stC C j))) = cM C := by
      show nN (bvN (stC C j) j (cM (stC C j)) 20 0) = nN (C 20 0)
      rw [kk 20 (by omega) (by omega) (by omega) (by omega)]
    rw [eM2] at hk
    rw [kk 28 (by omega) (by omega) (by omega) (by omega)] at h1
    rw [kk (43 + 8 * k) (by omega) (by omega) (by omega) (by omega)] at h2
    by_cases q : p = j
    · subst q
      refine bvN_v ⟨by rw [ks 28 (by omega) (by omega) (by omega)]; exact h1, by rw [ks (43 + 8 * k) (by omega) (by omega) (by omega)]; exact h2⟩ ?_
      rw [eM]; exact hk
    · rw [bvN_p q, ks _ (by omega) (by omega) (by omega)]
      refine h.2.2.2.2 k hk h1 h2 p hp ?_
      rw [bvN_k _ _ (by omega)] at h3
      unfold stC at h3
      rw [blC_k (by omega), up2_i q] at h3
      exact h3
