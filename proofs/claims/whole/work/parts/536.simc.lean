/-! the calls, on -/
set_option maxHeartbeats 1000000 in
theorem sim_balance {M C : zMS} (h : INV M C) {g : zG} {a : Nat → Nat} {o : Nat} {f0 : Nat → Int64} {x y : Int32} {κ : Int32} {w1 : va_W} (hW : wPost g o f0 (fun r w' => (∃ e, cUp C y e ∧ r = zsum (fun p => cSum C 16 p x) e) ∧ w' = wC g a C (4 * cM C) ∧ (rng x 8) ∧ (rng y (cT C + 1))) (fun E w' => w' = wC g a C (4 * cM C) ∧ ((E = "java/lang/IndexOutOfBoundsException" ∧ ¬ (rng x 8)) ∨ (E = "java/lang/IllegalArgumentException" ∧ (rng x 8) ∧ ¬ (rng y (cT C + 1))))) ["java/lang/IndexOutOfBoundsException", "java/lang/IllegalArgumentException"] κ w1) {r : Int32} {M' : zMS} (hm : (¬ rng x 8 → M' = up2 M 0 0 (nI 1)) ∧ (rng x 8 → ¬ rng y (mT M + 1) → M' = up2 M 0 0 (nI 2)) ∧ (rng x 8 → rng y (mT M + 1) → r = bOf M x y ∧ M' = up2 M 0 0 (nI 0))) : SimR g o (a 0) κ w1 r M' := by
  rcases hW with ⟨rfl, ans, w2, rfl, hp⟩ | ⟨E, w2, i, hc, rfl, rfl, hx⟩
  · obtain ⟨⟨e, he, rfl⟩, rfl, g1, g2⟩ := hp
    rw [i_T h] at g2
    obtain ⟨hr, rfl⟩ := hm.2.2 g1 g2
    refine simN (INV_0 h) rfl ?_ rfl
    rw [hr]; exact i_bal h he
  · obtain ⟨rfl, hx⟩ := hx
    rcases cat_2 hc with ⟨rfl, ec⟩ | ⟨rfl, ec⟩
    · rcases hx with ⟨e, q⟩ | ⟨e, q⟩
      · first | exact absurd (ec.symm.trans e) (by decide) | exact simT h (by decide) (hm.1 q)
      · first | exact absurd (ec.symm.trans e) (by decide) | exact simT h (by decide) (hm.2.1 q.1 (by rw [← i_T h]; exact q.2))
    · rcases hx with ⟨e, q⟩ | ⟨e, q⟩
      · first | exact absurd (ec.symm.trans e) (by decide) | exact simT h (by decide) (hm.1 q)
      · first | exact absurd (ec.symm.trans e) (by decide) | exact simT h (by decide) (hm.2.1 q.1 (by rw [← i_T h]; exact q.2))
set_option maxHeartbeats 1000000 in
theorem sim_balanceByPages {M C : zMS} (h : INV M C) {g : zG} {a : Nat → Nat} {o : Nat} {f0 : Nat → Int64} {x y : Int32} {κ : Int32} {w1 : va_W} (hW : wPost g o f0 (fun r w' => (∃ e, cUp C y e ∧ r = zsum (fun p => ifI (cSt C p = 2) (cSum C 16 p x) (cSum C 18 p x)) e) ∧ w' = wC g a C (4 * cM C) ∧ (rng x 8) ∧ (rng y (cT C + 1)) ∧ (∀ e, cUp C y e → ∀ p, p < e → ¬ cSt C p = 1)) (fun E w' => w' = wC g a C (4 * cM C) ∧ ((E = "java/lang/IndexOutOfBoundsException" ∧ ¬ (rng x 8)) ∨ (E = "java/lang/IllegalArgumentException" ∧ (rng x 8) ∧ ¬ (rng y (cT C + 1))) ∨ (E = "java/lang/IllegalStateException" ∧ (rng x 8) ∧ (rng y (cT C + 1)) ∧ ¬ (∀ e, cUp C y e → ∀ p, p < e → ¬ cSt C p = 1)))) ["java/lang/IndexOutOfBoundsException", "java/lang/IllegalArgumentException", "java/lang/IllegalStateException"] κ w1) {r : Int32} {M' : zMS} (hm : (¬ rng x 8 → M' = up2 M 0 0 (nI 1)) ∧ (rng x 8 → ¬ rng y (mT M + 1) → M' = up2 M 0 0 (nI 2)) ∧ (rng x 8 → rng y (mT M + 1) → pBu M y (mP M) → M' = up2 (up2 M 0 0 (nI 0)) 0 0 (nI 3)) ∧ (rng x 8 → rng y (mT M + 1) → ¬ pBu M y (mP M) → r = bPg M x y ∧ M' = up2 (up2 M 0 0 (nI 0)) 0 0 (nI 0))) : SimR g o (a 0) κ w1 r M' := by
  rcases hW with ⟨rfl, ans, w2, rfl, hp⟩ | ⟨E, w2, i, hc, rfl, rfl, hx⟩
  · obtain ⟨⟨e, he, rfl⟩, rfl, g1, g2, g3⟩ := hp
    rw [i_T h] at g2
    have k3 := g3 e he
    obtain ⟨hr, rfl⟩ := hm.2.2.2 g1 g2 (fun z => by
      obtain ⟨p, hp, z1, z2⟩ := z
      exact k3 p ((i_up h he hp).mpr z1) ((i_St1 h hp).mpr z2))
    refine simN (INV_0 (INV_0 h)) rfl ?_ rfl
    rw [hr]; exact i_balP h he k3
  · obtain ⟨rfl, hx⟩ := hx
    rcases cat_3 hc with ⟨rfl, ec⟩ | ⟨rfl, ec⟩ | ⟨rfl, ec⟩
    · rcases hx with ⟨e, q⟩ | ⟨e, q⟩ | ⟨e, q⟩
      · first | exact absurd (ec.symm.trans e) (by decide) | exact simT h (by decide) (hm.1 q)
      · first | exact absurd (ec.symm.trans e) (by decide) | exact simT h (by decide) (hm.2.1 q.1 (by rw [← i_T h]; exact q.2))
      · first | exact absurd (ec.symm.trans e) (by decide) | (
           obtain ⟨q1, q2, q3⟩ := q
           rw [i_T h] at q2
           refine simT (M := up2 M 0 0 (nI 0)) (INV_0 h) (by decide) (hm.2.2.1 q1 q2 ?_)
           refine Classical.byContradiction (fun z => q3 (fun e he p hp z2 => z ?_))
           have hp' : p < mP M := by have := he.1; rw [i_P h] at this; omega
           exact ⟨p, hp', (i_up h he hp').mp hp, (i_St1 h hp').mp z2⟩)
    · rcases hx with ⟨e, q⟩ | ⟨e, q⟩ | ⟨e, q⟩
      · first | exact absurd (ec.symm.trans e) (by decide) | exact simT h (by decide) (hm.1 q)
      · first | exact absurd (ec.symm.trans e) (by decide) | exact simT h (by decide) (hm.2.1 q.1 (by rw [← i_T h]; exact q.2))
      · first | exact absurd (ec.symm.trans e) (by decide) | (
           obtain ⟨q1, q2, q3⟩ := q
           rw [i_T h] at q2
           refine simT (M := up2 M 0 0 (nI 0)) (INV_0 h) (by decide) (hm.2.2.1 q1 q2 ?_)
           refine Classical.byContradiction (fun z => q3 (fun e he p hp z2 => z ?_))
           have hp' : p < mP M := by have := he.1; rw [i_P h] at this; omega
           exact ⟨p, hp', (i_up h he hp').mp hp, (i_St1 h hp').mp z2⟩)
    · rcases hx with ⟨e, q⟩ | ⟨e, q⟩ | ⟨e, q⟩
      · first | exact absurd (ec.symm.trans e) (by decide) | exact simT h (by decide) (hm.1 q)
      · first | exact absurd (ec.symm.trans e) (by decide) | exact simT h (by decide) (hm.2.1 q.1 (by rw [← i_T h]; exact q.2))
      · first | exact absurd (ec.symm.trans e) (by decide) | (
           obtain ⟨q1, q2, q3⟩ := q
           rw [i_T h] at q2
           refine simT (M := up2 M 0 0 (nI 0)) (INV_0 h) (by decide) (hm.2.2.1 q1 q2 ?_)
           refine Classical.byContradiction (fun z => q3 (fun e he p hp z2 => z ?_))
           have hp' : p < mP M := by have := he.1; rw [i_P h] at this; omega
           exact ⟨p, hp', (i_up h he hp').mp hp, (i_St1 h hp').mp z2⟩)
set_option maxHeartbeats 1000000 in
theorem sim_balanceByCopies {M C : zMS} (h : INV M C) {g : zG} {a : Nat → Nat} {o : Nat} {f0 : Nat → Int64} {x y : Int32} {κ : Int32} {w1 : va_W} (hW : wPost g o f0 (fun r w' => (∃ e, cUp C y e ∧ r = zsum (fun p => cSum C 16 p x) e) ∧ w' = wC g a C (4 * cM C) ∧ (rng x 8) ∧ (rng y (cT C + 1)) ∧ (∀ e, cUp C y e → ∀ p, p < e → cTT C p)) (fun E w' => w' = wC g a C (4 * cM C) ∧ ((E = "java/lang/IndexOutOfBoundsException" ∧ ¬ (rng x 8)) ∨ (E = "java/lang/IllegalArgumentException" ∧ (rng x 8) ∧ ¬ (rng y (cT C + 1))) ∨ (E = "java/lang/IllegalStateException" ∧ (rng x 8) ∧ (rng y (cT C + 1)) ∧ ¬ (∀ e, cUp C y e → ∀ p, p < e → cTT C p)))) ["java/lang/IndexOutOfBoundsException", "java/lang/IllegalArgumentException", "java/lang/IllegalStateException"] κ w1) {r : Int32} {M' : zMS} (hm : (¬ rng x 8 → M' = up2 M 0 0 (nI 1)) ∧ (rng x 8 → ¬ rng y (mT M + 1) → M' = up2 M 0 0 (nI 2)) ∧ (rng x 8 → rng y (mT M + 1) → ¬ pAl M y (mP M) → M' = up2 (up2 M 0 0 (nI 0)) 0 0 (nI 3)) ∧ (rng x 8 → rng y (mT M + 1) → pAl M y (mP M) → r = bOf M x y ∧ M' = up2 (up2 M 0 0 (nI 0)) 0 0 (nI 0))) : SimR g o (a 0) κ w1 r M' := by
  rcases hW with ⟨rfl, ans, w2, rfl, hp⟩ | ⟨E, w2, i, hc, rfl, rfl, hx⟩
  · obtain ⟨⟨e, he, rfl⟩, rfl, g1, g2, g3⟩ := hp
    rw [i_T h] at g2
    have k3 := g3 e he
    obtain ⟨hr, rfl⟩ := hm.2.2.2 g1 g2 (fun p hp => by
      by_cases z : y < M 6 p
      · exact Or.inl z
      · exact Or.inr ((i_TT h hp).mp (k3 p ((i_up h he hp).mpr z))))
    refine simN (INV_0 (INV_0 h)) rfl ?_ rfl
    rw [hr]; exact i_bal h he
  · obtain ⟨rfl, hx⟩ := hx
    rcases cat_3 hc with ⟨rfl, ec⟩ | ⟨rfl, ec⟩ | ⟨rfl, ec⟩
    · rcases hx with ⟨e, q⟩ | ⟨e, q⟩ | ⟨e, q⟩
      · first | exact absurd (ec.symm.trans e) (by decide) | exact simT h (by decide) (hm.1 q)
      · first | exact absurd (ec.symm.trans e) (by decide) | exact simT h (by decide) (hm.2.1 q.1 (by rw [← i_T h]; exact q.2))
      · first | exact absurd (ec.symm.trans e) (by decide) | (
           obtain ⟨q1, q2, q3⟩ := q
           rw [i_T h] at q2
           refine simT (M := up2 M 0 0 (nI 0)) (INV_0 h) (by decide) (hm.2.2.1 q1 q2 (fun z => q3 (fun e he p hp => ?_)))
           have hp' : p < mP M := by have := he.1; rw [i_P h] at this; omega
           rcases z p hp' with z1 | z1
           · exact absurd z1 ((i_up h he hp').mp hp)
           · exact (i_TT h hp').mpr z1)
    · rcases hx with ⟨e, q⟩ | ⟨e, q⟩ | ⟨e, q⟩
      · first | exact absurd (ec.symm.trans e) (by decide) | exact simT h (by decide) (hm.1 q)
      · first | exact absurd (ec.symm.trans e) (by decide) | exact simT h (by decide) (hm.2.1 q.1 (by rw [← i_T h]; exact q.2))
      · first | exact absurd (ec.symm.trans e) (by decide) | (
           obtain ⟨q1, q2, q3⟩ := q
           rw [i_T h] at q2
           refine simT (M := up2 M 0 0 (nI 0)) (INV_0 h) (by decide) (hm.2.2.1 q1 q2 (fun z => q3 (fun e he p hp => ?_)))
           have hp' : p < mP M := by have := he.1; rw [i_P h] at this; omega
           rcases z p hp' with z1 | z1
           · exact absurd z1 ((i_up h he hp').mp hp)
           · exact (i_TT h hp').mpr z1)
    · rcases hx with ⟨e, q⟩ | ⟨e, q⟩ | ⟨e, q⟩
      · first | exact absurd (ec.symm.trans e) (by decide) | exact simT h (by decide) (hm.1 q)
      · first | exact absurd (ec.symm.trans e) (by decide) | exact simT h (by decide) (hm.2.1 q.1 (by rw [← i_T h]; exact q.2))
      · first | exact absurd (ec.symm.trans e) (by decide) | (
           obtain ⟨q1, q2, q3⟩ := q
           rw [i_T h] at q2
           refine simT (M := up2 M 0 0 (nI 0)) (INV_0 h) (by decide) (hm.2.2.1 q1 q2 (fun z => q3 (fun e he p hp => ?_)))
           have hp' : p < mP M := by have := he.1; rw [i_P h] at this; omega
           rcases z p hp' with z1 | z1
           · exact absurd z1 ((i_up h he hp').mp hp)
           · exact (i_TT h hp').mpr z1)
set_option maxHeartbeats 1000000 in
theorem sim_size {M C : zMS} (h : INV M C) {g : zG} {a : Nat → Nat} {o : Nat} {f0 : Nat → Int64} {x : Int32} {κ : Int32} {w1 : va_W} (hW : wPost g o f0 (fun r w' => r = nI (cE C (nN x) - cF C (nN x)) ∧ w' = wC g a C (4 * cM C) ∧ (cCx C x)) (fun E w' => w' = wC g a C (4 * cM C) ∧ (E = "java/lang/IndexOutOfBoundsException" ∧ ¬ (cCx C x))) ["java/lang/IndexOutOfBoundsException"] κ w1) {r : Int32} {M' : zMS} (hm : (¬ pCx M x → M' = up2 M 0 0 (nI 1)) ∧ (pCx M x → r = nI (mE M (nN x)) - nI (mF M (nN x)) ∧ M' = up2 M 0 0 (nI 0))) : SimR g o (a 0) κ w1 r M' := by
  have b15 := MI_b15 h.1
  rcases hW with ⟨rfl, ans, w2, rfl, hp⟩ | ⟨E, w2, i, hc, rfl, rfl, hx⟩
  · obtain ⟨rfl, rfl, g1⟩ := hp
    obtain ⟨k, rfl, hk, h19⟩ := (i_Cx h).mp g1
    have hx : pCx M (nI k) := ⟨k, rfl, hk, h19⟩
    simp only [nN_nI (show k < 2 ^ 31 by omega)] at *
    obtain ⟨hr, rfl⟩ := hm.2 hx
    refine simN (INV_0 h) rfl ?_ rfl
    rw [hr]
    have hFE := h.2.2.2.2.2.2.2.2.2.2 k hk
    rw [i_E h hk, i_F h hk, pk_sub hFE.1]
  · obtain ⟨rfl, hx⟩ := hx
    rcases cat_1 hc with ⟨rfl, ec⟩
    · obtain ⟨e, q⟩ := hx
      exact simT h (by decide) (hm.1 (fun r => q ((i_Cx h).mpr r)))
set_option maxHeartbeats 1000000 in
theorem sim_isInVault {M C : zMS} (h : INV M C) {g : zG} {a : Nat → Nat} {o : Nat} {f0 : Nat → Int64} {x : Int32} {κ : Int32} {w1 : va_W} (hW : wPost g o f0 (fun r w' => r = C (43 + 8 * nN x) 0 ∧ w' = wC g a C (4 * cM C) ∧ (cCx C x)) (fun E w' => w' = wC g a C (4 * cM C) ∧ (E = "java/lang/IndexOutOfBoundsException" ∧ ¬ (cCx C x))) ["java/lang/IndexOutOfBoundsException"] κ w1) {r : Int32} {M' : zMS} (hm : (¬ pCx M x → M' = up2 M 0 0 (nI 1)) ∧ (pCx M x → r = bI (M 20 (nN x) = 0) ∧ M' = up2 M 0 0 (nI 0))) : SimR g o (a 0) κ w1 r M' := by
  have b15 := MI_b15 h.1
  rcases hW with ⟨rfl, ans, w2, rfl, hp⟩ | ⟨E, w2, i, hc, rfl, rfl, hx⟩
  · obtain ⟨rfl, rfl, g1⟩ := hp
    obtain ⟨k, rfl, hk, h19⟩ := (i_Cx h).mp g1
    have hx : pCx M (nI k) := ⟨k, rfl, hk, h19⟩
    simp only [nN_nI (show k < 2 ^ 31 by omega)] at *
    obtain ⟨hr, rfl⟩ := hm.2 hx
    refine simN (INV_0 h) rfl ?_ rfl
    rw [hr]
    rcases (i_cp h hk).2.2.2.2.1 with ⟨s1, s2⟩ | ⟨s1, s2⟩
    · rw [s1, bI_t s2]
    · rw [s1, bI_f s2]
  · obtain ⟨rfl, hx⟩ := hx
    rcases cat_1 hc with ⟨rfl, ec⟩
    · obtain ⟨e, q⟩ := hx
      exact simT h (by decide) (hm.1 (fun r => q ((i_Cx h).mpr r)))
set_option maxHeartbeats 1000000 in
theorem sim_stands {M C : zMS} (h : INV M C) {g : zG} {a : Nat → Nat} {o : Nat} {f0 : Nat → Int64} {x y : Int32} {κ : Int32} {w1 : va_W} (hW : wPost g o f0 (fun r w' => r = C (44 + 8 * nN x) (nN y) ∧ w' = wC g a C (4 * cM C) ∧ (cCx C x) ∧ (cIn C (nN x) y)) (fun E w' => w' = wC g a C (4 * cM C) ∧ ((E = "java/lang/IndexOutOfBoundsException" ∧ ¬ (cCx C x)) ∨ (E = "java/lang/IndexOutOfBoundsException" ∧ (cCx C x) ∧ ¬ (cIn C (nN x) y)))) ["java/lang/IndexOutOfBoundsException"] κ w1) {r : Int32} {M' : zMS} (hm : (¬ pBo M x y → M' = up2 M 0 0 (nI 1)) ∧ (pBo M x y → r = bI (pSt M (nN x) (nN y)) ∧ M' = up2 M 0 0 (nI 0))) : SimR g o (a 0) κ w1 r M' := by
  have b15 := MI_b15 h.1
  rcases hW with ⟨rfl, ans, w2, rfl, hp⟩ | ⟨E, w2, i, hc, rfl, rfl, hx⟩
  · obtain ⟨rfl, rfl, g1, g2⟩ := hp
    obtain ⟨k, rfl, hk, h19⟩ := (i_Cx h).mp g1
    have hx : pCx M (nI k) := ⟨k, rfl, hk, h19⟩
    simp only [nN_nI (show k < 2 ^ 31 by omega)] at *
    obtain ⟨j, rfl, hj1, hj2⟩ := g2
    rw [i_F h hk] at hj1
    rw [i_E h hk] at hj2
    have bE := MI_b18 h.1 k
    simp only [nN_nI (show j < 2 ^ 31 by omega)] at *
    have hFE := h.2.2.2.2.2.2.2.2.2.2 k hk
    have hb : pBo M (nI k) (nI j) := ⟨k, j, rfl, rfl, ⟨hk, h19⟩, by omega, hj1, hj2⟩
    obtain ⟨hr, rfl⟩ := hm.2 hb
    refine simN (INV_0 h) rfl ?_ rfl
    rw [hr]
    rcases ((i_cp h hk).2.2.2.2.2 h19 j (by omega)).1 ⟨hj1, hj2⟩ with ⟨s1, s2, -⟩ | ⟨s1, s2, -⟩
    · rw [s2, bI_f (fun z => z.2 s1)]
    · rw [s2, bI_t ⟨⟨hj1, hj2⟩, by rw [s1]; decide⟩]
  · obtain ⟨rfl, hx⟩ := hx
    rcases cat_1 hc with ⟨rfl, ec⟩
    · rcases hx with ⟨e, q⟩ | ⟨e, q⟩
      · first | exact absurd (ec.symm.trans e) (by decide) | exact simT h (by decide) (hm.1 (fun ⟨c, p, e1, e2, hcp, _⟩ => q ((i_Cx h).mpr ⟨c, e1, hcp⟩)))
      · first | exact absurd (ec.symm.trans e) (by decide) | (
           obtain ⟨q1, q2⟩ := q
           exact simT h (by decide) (hm.1 (fun ⟨c, p, e1, e2, hcp, hp2, hh⟩ => q2 (by
             have b15 := MI_b15 h.1
             rw [e1, nN_nI (by have := hcp.1; omega)]
             exact ⟨p, e2, by rw [i_F h hcp.1]; exact hh.1, by rw [i_E h hcp.1]; exact hh.2⟩))))
set_option maxHeartbeats 1000000 in
theorem sim_copiesOf {M C : zMS} (h : INV M C) {g : zG} {a : Nat → Nat} {o : Nat} {f0 : Nat → Int64} {x : Int32} {κ : Int32} {w1 : va_W} (hW : wPost g o f0 (fun r w' => r = nI (cCF C (nN x)) ∧ w' = wC g a C (4 * cM C) ∧ (rng x (cP C))) (fun E w' => w' = wC g a C (4 * cM C) ∧ (E = "java/lang/IndexOutOfBoundsException" ∧ ¬ (rng x (cP C)))) ["java/lang/IndexOutOfBoundsException"] κ w1) {r : Int32} {M' : zMS} (hm : (¬ rng x (mP M) → M' = up2 M 0 0 (nI 1)) ∧ (rng x (mP M) → r = nI (zcnt (fun k => M 19 k = 0 ∧ pSt M k (nN x)) (mC M)) ∧ M' = up2 M 0 0 (nI 0))) : SimR g o (a 0) κ w1 r M' := by
  have bP := MI_b5 h.1
  rcases hW with ⟨rfl, ans, w2, rfl, hp⟩ | ⟨E, w2, i, hc, rfl, rfl, hx⟩
  · obtain ⟨rfl, rfl, g1⟩ := hp
    rw [i_P h] at g1
    obtain ⟨p, hp, rfl⟩ := g1
    simp only [nN_nI (show p < 2 ^ 31 by omega)] at *
    obtain ⟨hr, rfl⟩ := hm.2 ⟨p, hp, rfl⟩
    refine simN (INV_0 h) rfl ?_ rfl
    rw [hr]
    unfold cCF
    rw [i_M h]
    refine congrArg nI (zcnt_cg (fun k hk => ?_))
    rw [i_28 h hk]
    exact ⟨fun z => ⟨z.1, (i_Fi h hk z.1 (by omega)).mp z.2⟩, fun z => ⟨z.1, (i_Fi h hk z.1 (by omega)).mpr z.2⟩⟩
  · obtain ⟨rfl, hx⟩ := hx
    rcases cat_1 hc with ⟨rfl, ec⟩
    · obtain ⟨e, q⟩ := hx
      exact simT h (by decide) (hm.1 (by rw [← i_P h]; exact q))
set_option maxHeartbeats 1000000 in
theorem sim_canRestore {M C : zMS} (h : INV M C) {g : zG} {a : Nat → Nat} {o : Nat} {f0 : Nat → Int64} {x : Int32} {κ : Int32} {w1 : va_W} (hW : wPost g o f0 (fun r w' => r = bI (cWh C (nN x)) ∧ w' = wC g a C (4 * cM C) ∧ (cCx C x)) (fun E w' => w' = wC g a C (4 * cM C) ∧ (E = "java/lang/IndexOutOfBoundsException" ∧ ¬ (cCx C x))) ["java/lang/IndexOutOfBoundsException"] κ w1) {r : Int32} {M' : zMS} (hm : (¬ pCx M x → M' = up2 M 0 0 (nI 1)) ∧ (pCx M x → r = bI (pWh M (nN x)) ∧ M' = up2 M 0 0 (nI 0))) : SimR g o (a 0) κ w1 r M' := by
  have b15 := MI_b15 h.1
  rcases hW with ⟨rfl, ans, w2, rfl, hp⟩ | ⟨E, w2, i, hc, rfl, rfl, hx⟩
  · obtain ⟨rfl, rfl, g1⟩ := hp
    obtain ⟨k, rfl, hk, h19⟩ := (i_Cx h).mp g1
    have hx : pCx M (nI k) := ⟨k, rfl, hk, h19⟩
    simp only [nN_nI (show k < 2 ^ 31 by omega)] at *
    obtain ⟨hr, rfl⟩ := hm.2 hx
    refine simN (INV_0 h) rfl ?_ rfl
    rw [hr]
    exact bI_cg (i_Wh h hk h19)
  · obtain ⟨rfl, hx⟩ := hx
    rcases cat_1 hc with ⟨rfl, ec⟩
    · obtain ⟨e, q⟩ := hx
      exact simT h (by decide) (hm.1 (fun r => q ((i_Cx h).mpr r)))
set_option maxHeartbeats 1000000 in
theorem sim_audit {M C : zMS} (h : INV M C) {g : zG} {a : Nat → Nat} {o : Nat} {f0 : Nat → Int64} {x : Int32} {κ : Int32} {w1 : va_W} (hW : wPost g o f0 (fun r w' => r = nI (zcnt (fun i => ¬ Lk C (44 + 8 * nN x) (45 + 8 * nN x) 17 18 (cF C (nN x) + i)) (cE C (nN x) - cF C (nN x))) ∧ w' = wC g a C (4 * cM C) ∧ (cCx C x)) (fun E w' => w' = wC g a C (4 * cM C) ∧ (E = "java/lang/IndexOutOfBoundsException" ∧ ¬ (cCx C x))) ["java/lang/IndexOutOfBoundsException"] κ w1) {r : Int32} {M' : zMS} (hm : (¬ pCx M x → M' = up2 M 0 0 (nI 1)) ∧ (pCx M x → r = nI (zcnt (fun q => ¬ pSm M (nN x) (mF M (nN x) + q)) (mE M (nN x) - mF M (nN x))) ∧ M' = up2 M 0 0 (nI 0))) : SimR g o (a 0) κ w1 r M' := by
  have b15 := MI_b15 h.1
  rcases hW with ⟨rfl, ans, w2, rfl, hp⟩ | ⟨E, w2, i, hc, rfl, rfl, hx⟩
  · obtain ⟨rfl, rfl, g1⟩ := hp
    obtain ⟨k, rfl, hk, h19⟩ := (i_Cx h).mp g1
    have hx : pCx M (nI k) := ⟨k, rfl, hk, h19⟩
    simp only [nN_nI (show k < 2 ^ 31 by omega)] at *
    obtain ⟨hr, rfl⟩ := hm.2 hx
    refine simN (INV_0 h) rfl ?_ rfl
    rw [hr]
    have hFE := h.2.2.2.2.2.2.2.2.2.2 k hk
    rw [i_E h hk, i_F h hk]
    refine congrArg nI (zcnt_cg (fun i hi => not_congr (i_Lk h hk h19 ?_ ?_)))
    · exact ⟨by omega, by omega⟩
    · omega
  · obtain ⟨rfl, hx⟩ := hx
    rcases cat_1 hc with ⟨rfl, ec⟩
    · obtain ⟨e, q⟩ := hx
      exact simT h (by decide) (hm.1 (fun r => q ((i_Cx h).mpr r)))
set_option maxHeartbeats 1000000 in
theorem sim_isOpen {M C : zMS} (h : INV M C) {g : zG} {a : Nat → Nat} {o : Nat} {f0 : Nat → Int64} {x : Int32} {κ : Int32} {w1 : va_W} (hW : wPost g o f0 (fun r w' => r = C 21 (nN x) ∧ w' = wC g a C (4 * cM C) ∧ (rng x (cK C))) (fun E w' => w' = wC g a C (4 * cM C) ∧ (E = "java/lang/IndexOutOfBoundsException" ∧ ¬ (rng x (cK C)))) ["java/lang/IndexOutOfBoundsException"] κ w1) {r : Int32} {M' : zMS} (hm : (¬ rng x (mK M) → M' = up2 M 0 0 (nI 1)) ∧ (rng x (mK M) → r = bI (M 24 (nN x) = 0) ∧ M' = up2 M 0 0 (nI 0))) : SimR g o (a 0) κ w1 r M' := by
  have b8 := MI_b23 h.1
  rcases hW with ⟨rfl, ans, w2, rfl, hp⟩ | ⟨E, w2, i, hc, rfl, rfl, hx⟩
  · obtain ⟨rfl, rfl, g1⟩ := hp
    rw [i_K h] at g1
    obtain ⟨c, hc2, rfl⟩ := g1
    simp only [nN_nI (show c < 2 ^ 31 by omega)] at *
    obtain ⟨hr, rfl⟩ := hm.2 ⟨c, hc2, rfl⟩
    refine simN (INV_0 h) rfl ?_ rfl
    rw [hr]
    exact i_21 h hc2
  · obtain ⟨rfl, hx⟩ := hx
    rcases cat_1 hc with ⟨rfl, ec⟩
    · obtain ⟨e, q⟩ := hx
      exact simT h (by decide) (hm.1 (by rw [← i_K h]; exact q))
set_option maxHeartbeats 1000000 in
theorem sim_holders {M C : zMS} (h : INV M C) {g : zG} {a : Nat → Nat} {o : Nat} {f0 : Nat → Int64} {x : Int32} {κ : Int32} {w1 : va_W} (hW : wPost g o f0 (fun r w' => r = cHS C (nN x) ∧ w' = wC g a C (4 * cM C) ∧ (rng x (cP C))) (fun E w' => w' = wC g a C (4 * cM C) ∧ (E = "java/lang/IndexOutOfBoundsException" ∧ ¬ (rng x (cP C)))) ["java/lang/IndexOutOfBoundsException"] κ w1) {r : Int32} {M' : zMS} (hm : (¬ rng x (mP M) → M' = up2 M 0 0 (nI 1)) ∧ (rng x (mP M) → r = hS M (nN x) ∧ M' = up2 M 0 0 (nI 0))) : SimR g o (a 0) κ w1 r M' := by
  have bP := MI_b5 h.1
  rcases hW with ⟨rfl, ans, w2, rfl, hp⟩ | ⟨E, w2, i, hc, rfl, rfl, hx⟩
  · obtain ⟨rfl, rfl, g1⟩ := hp
    rw [i_P h] at g1
    obtain ⟨p, hp, rfl⟩ := g1
    simp only [nN_nI (show p < 2 ^ 31 by omega)] at *
    obtain ⟨hr, rfl⟩ := hm.2 ⟨p, hp, rfl⟩
    refine simN (INV_0 h) rfl ?_ rfl
    rw [hr]
    exact i_HS h hp
  · obtain ⟨rfl, hx⟩ := hx
    rcases cat_1 hc with ⟨rfl, ec⟩
    · obtain ⟨e, q⟩ := hx
      exact simT h (by decide) (hm.1 (by rw [← i_P h]; exact q))
set_option maxHeartbeats 1000000 in
theorem sim_canStrike {M C : zMS} (h : INV M C) {g : zG} {a : Nat → Nat} {o : Nat} {f0 : Nat → Int64} {x y : Int32} {κ : Int32} {w1 : va_W} (hW : wPost g o f0 (fun r w' => r = bI (cMay C (nN x) (nN y)) ∧ w' = wC g a C (4 * cM C) ∧ (rng x (cK C)) ∧ (rng y (cP C))) (fun E w' => w' = wC g a C (4 * cM C) ∧ ((E = "java/lang/IndexOutOfBoundsException" ∧ ¬ (rng x (cK C))) ∨ (E = "java/lang/IndexOutOfBoundsException" ∧ (rng x (cK C)) ∧ ¬ (rng y (cP C))))) ["java/lang/IndexOutOfBoundsException"] κ w1) {r : Int32} {M' : zMS} (hm : (¬ rng x (mK M) → M' = up2 M 0 0 (nI 1)) ∧ (rng x (mK M) → ¬ rng y (mP M) → M' = up2 M 0 0 (nI 1)) ∧ (rng x (mK M) → rng y (mP M) → r = bI (pMay M (nN x) (nN y)) ∧ M' = up2 M 0 0 (nI 0))) : SimR g o (a 0) κ w1 r M' := by
  have b8 := MI_b23 h.1
  have bP := MI_b5 h.1
  rcases hW with ⟨rfl, ans, w2, rfl, hp⟩ | ⟨E, w2, i, hc, rfl, rfl, hx⟩
  · obtain ⟨rfl, rfl, g1, g2⟩ := hp
    rw [i_K h] at g1
    obtain ⟨c, hc2, rfl⟩ := g1
    simp only [nN_nI (show c < 2 ^ 31 by omega)] at *
    rw [i_P h] at g2
    obtain ⟨p, hp, rfl⟩ := g2
    simp only [nN_nI (show p < 2 ^ 31 by omega)] at *
    obtain ⟨hr, rfl⟩ := hm.2.2 ⟨c, hc2, rfl⟩ ⟨p, hp, rfl⟩
    refine simN (INV_0 h) rfl ?_ rfl
    rw [hr]
    exact bI_cg (i_May h hc2 hp)
  · obtain ⟨rfl, hx⟩ := hx
    rcases cat_1 hc with ⟨rfl, ec⟩
    · rcases hx with ⟨e, q⟩ | ⟨e, q⟩
      · first | exact absurd (ec.symm.trans e) (by decide) | exact simT h (by decide) (hm.1 (by rw [← i_K h]; exact q))
      · first | exact absurd (ec.symm.trans e) (by decide) | exact simT h (by decide) (hm.2.1 (by rw [← i_K h]; exact q.1) (by rw [← i_P h]; exact q.2))
