/-! the calls, on -/
set_option maxHeartbeats 1000000 in
theorem sim_leg {M C : zMS} (h : INV M C) {g : zG} {a : Nat → Nat} {o : Nat} {f0 : Nat → Int64} {x y : Int32} {κ : Int32} {w1 : va_W} (hW : wPost g o f0 (fun r w' => r = nI (cD C + 1) ∧ w' = wC g a (up2 (up2 (up2 C 1 (cD C) x) 2 (cD C) y) 3 0 (nI (cD C + 1))) (4 * cM C) ∧ (rng x 8) ∧ ((-10000) ≤ y ∧ y ≤ nI (10000)) ∧ (¬ y = 0) ∧ (cD C < 4)) (fun E w' => w' = wC g a C (4 * cM C) ∧ ((E = "java/lang/IndexOutOfBoundsException" ∧ ¬ (rng x 8)) ∨ (E = "java/lang/IllegalArgumentException" ∧ (rng x 8) ∧ ¬ ((-10000) ≤ y ∧ y ≤ nI (10000))) ∨ (E = "java/lang/IllegalArgumentException" ∧ (rng x 8) ∧ ((-10000) ≤ y ∧ y ≤ nI (10000)) ∧ ¬ (¬ y = 0)) ∨ (E = "java/lang/IllegalStateException" ∧ (rng x 8) ∧ ((-10000) ≤ y ∧ y ≤ nI (10000)) ∧ (¬ y = 0) ∧ ¬ (cD C < 4)))) ["java/lang/IndexOutOfBoundsException", "java/lang/IllegalArgumentException", "java/lang/IllegalStateException"] κ w1) {r : Int32} {M' : zMS} (hm : (¬ rng x 8 → M' = up2 M 0 0 (nI 1)) ∧ (rng x 8 → ¬ ((-10000) ≤ y ∧ y ≤ nI (10000)) → M' = up2 M 0 0 (nI 2)) ∧ (rng x 8 → ((-10000) ≤ y ∧ y ≤ nI (10000)) → y = 0 → M' = up2 M 0 0 (nI 2)) ∧ (rng x 8 → ((-10000) ≤ y ∧ y ≤ nI (10000)) → ¬ y = 0 → mD M = 4 → M' = up2 M 0 0 (nI 3)) ∧ (rng x 8 → ((-10000) ≤ y ∧ y ≤ nI (10000)) → ¬ y = 0 → mD M ≠ 4 → r = nI (mD M + 1) ∧ M' = lgM M x y)) : SimR g o (a 0) κ w1 r M' := by
  rcases hW with ⟨rfl, ans, w2, rfl, hp⟩ | ⟨E, w2, i, hc, rfl, rfl, hx⟩
  · obtain ⟨rfl, rfl, g1, g2, g3, g4⟩ := hp
    rw [i_D h] at g4
    obtain ⟨rfl, rfl⟩ := hm.2.2.2.2 g1 g2 g3 (by omega)
    rw [i_D h]
    exact simN (INV_leg h g4) rfl rfl (m_f (by rw [up2_k (by omega), up2_k (by omega), up2_k (by omega)]))
  · obtain ⟨rfl, hx⟩ := hx
    rcases cat_3 hc with ⟨rfl, ec⟩ | ⟨rfl, ec⟩ | ⟨rfl, ec⟩
    · rcases hx with ⟨e, q⟩ | ⟨e, q⟩ | ⟨e, q⟩ | ⟨e, q⟩
      · first | exact absurd (ec.symm.trans e) (by decide) | exact simT h (by decide) (hm.1 q)
      · first | exact absurd (ec.symm.trans e) (by decide) | exact simT h (by decide) (hm.2.1 q.1 q.2)
      · first | exact absurd (ec.symm.trans e) (by decide) | exact simT h (by decide) (hm.2.2.1 q.1 q.2.1 (Classical.not_not.mp q.2.2))
      · first | exact absurd (ec.symm.trans e) (by decide) | exact simT h (by decide) (hm.2.2.2.1 q.1 q.2.1 q.2.2.1 (by have := i_D h; have := MI_b2 h.1; have := q.2.2.2; omega))
    · rcases hx with ⟨e, q⟩ | ⟨e, q⟩ | ⟨e, q⟩ | ⟨e, q⟩
      · first | exact absurd (ec.symm.trans e) (by decide) | exact simT h (by decide) (hm.1 q)
      · first | exact absurd (ec.symm.trans e) (by decide) | exact simT h (by decide) (hm.2.1 q.1 q.2)
      · first | exact absurd (ec.symm.trans e) (by decide) | exact simT h (by decide) (hm.2.2.1 q.1 q.2.1 (Classical.not_not.mp q.2.2))
      · first | exact absurd (ec.symm.trans e) (by decide) | exact simT h (by decide) (hm.2.2.2.1 q.1 q.2.1 q.2.2.1 (by have := i_D h; have := MI_b2 h.1; have := q.2.2.2; omega))
    · rcases hx with ⟨e, q⟩ | ⟨e, q⟩ | ⟨e, q⟩ | ⟨e, q⟩
      · first | exact absurd (ec.symm.trans e) (by decide) | exact simT h (by decide) (hm.1 q)
      · first | exact absurd (ec.symm.trans e) (by decide) | exact simT h (by decide) (hm.2.1 q.1 q.2)
      · first | exact absurd (ec.symm.trans e) (by decide) | exact simT h (by decide) (hm.2.2.1 q.1 q.2.1 (Classical.not_not.mp q.2.2))
      · first | exact absurd (ec.symm.trans e) (by decide) | exact simT h (by decide) (hm.2.2.2.1 q.1 q.2.1 q.2.2.1 (by have := i_D h; have := MI_b2 h.1; have := q.2.2.2; omega))
set_option maxHeartbeats 1000000 in
theorem sim_write {M C : zMS} (h : INV M C) {g : zG} {a : Nat → Nat} {o : Nat} {f0 : Nat → Int64} {x : Int32} {κ : Int32} {w1 : va_W} (hW : wPost g o f0 (fun r w' => r = nI (cP C) ∧ w' = wC g a (up2 (apC C (cP C) 1 2 (cD C) x (nI (cT C))) 3 0 (nI 0)) (4 * cM C) ∧ (rng x 10000) ∧ ((2 ≤ cD C ∧ zsum (C 2) (cD C) = 0) ∧ cP C < 80)) (fun E w' => w' = wC g a C (4 * cM C) ∧ ((E = "java/lang/IllegalArgumentException" ∧ ¬ (rng x 10000)) ∨ (E = "java/lang/IllegalStateException" ∧ (rng x 10000) ∧ ¬ ((2 ≤ cD C ∧ zsum (C 2) (cD C) = 0) ∧ cP C < 80)))) ["java/lang/IllegalArgumentException", "java/lang/IllegalStateException"] κ w1) {r : Int32} {M' : zMS} (hm : (¬ rng x 10000 → M' = up2 M 0 0 (nI 1)) ∧ (rng x 10000 → mD M < 2 → M' = up2 M 0 0 (nI 2)) ∧ (rng x 10000 → 2 ≤ mD M → ¬ zsum (M 4) (mD M) = 0 → M' = up2 M 0 0 (nI 2)) ∧ (rng x 10000 → 2 ≤ mD M → zsum (M 4) (mD M) = 0 → 80 ≤ mP M → M' = up2 M 0 0 (nI 2)) ∧ (rng x 10000 → 2 ≤ mD M → zsum (M 4) (mD M) = 0 → mP M < 80 → r = nI (mP M) ∧ M' = wrM M x)) : SimR g o (a 0) κ w1 r M' := by
  have hz : zsum (C 2) (cD C) = 0 ↔ zsum (M 4) (mD M) = 0 := by rw [i_D h, zsum_cg (fun l hl => (h.2.2.1.2.2.2.2.2.2 l hl).2)]
  rcases hW with ⟨rfl, ans, w2, rfl, hp⟩ | ⟨E, w2, i, hc, rfl, rfl, hx⟩
  · obtain ⟨rfl, rfl, g1, ⟨g2, g3⟩, g4⟩ := hp
    rw [i_P h] at g4
    rw [i_D h] at g2
    obtain ⟨rfl, rfl⟩ := hm.2.2.2.2 g1 g2 (hz.mp g3) g4
    rw [i_P h, i_D h, i_T h]
    exact simN (INV_write h g4) (by unfold wrM; rw [up2_k (by omega), ptN_k _ _ _ _ (by omega), bgM_k (by omega)]; rfl) rfl (m_f (by rw [up2_k (by omega), apC_k (by omega)]))
  · obtain ⟨rfl, hx⟩ := hx
    rcases cat_2 hc with ⟨rfl, ec⟩ | ⟨rfl, ec⟩
    · rcases hx with ⟨e, q⟩ | ⟨e, q⟩
      · first | exact absurd (ec.symm.trans e) (by decide) | exact simT h (by decide) (hm.1 q)
      · first | exact absurd (ec.symm.trans e) (by decide) | (
           obtain ⟨q1, q2⟩ := q
           by_cases k1 : 2 ≤ mD M
           · by_cases k2 : zsum (M 4) (mD M) = 0
             · exact simT h (by decide) (hm.2.2.2.1 q1 k1 k2 (by rcases Nat.lt_or_ge (mP M) 80 with k3 | k3; exact absurd ⟨⟨by rw [i_D h]; exact k1, hz.mpr k2⟩, by rw [i_P h]; exact k3⟩ q2; exact k3))
             · exact simT h (by decide) (hm.2.2.1 q1 k1 k2)
           · exact simT h (by decide) (hm.2.1 q1 (by omega)))
    · rcases hx with ⟨e, q⟩ | ⟨e, q⟩
      · first | exact absurd (ec.symm.trans e) (by decide) | exact simT h (by decide) (hm.1 q)
      · first | exact absurd (ec.symm.trans e) (by decide) | (
           obtain ⟨q1, q2⟩ := q
           by_cases k1 : 2 ≤ mD M
           · by_cases k2 : zsum (M 4) (mD M) = 0
             · exact simT h (by decide) (hm.2.2.2.1 q1 k1 k2 (by rcases Nat.lt_or_ge (mP M) 80 with k3 | k3; exact absurd ⟨⟨by rw [i_D h]; exact k1, hz.mpr k2⟩, by rw [i_P h]; exact k3⟩ q2; exact k3))
             · exact simT h (by decide) (hm.2.2.1 q1 k1 k2)
           · exact simT h (by decide) (hm.2.1 q1 (by omega)))
set_option maxHeartbeats 1000000 in
theorem sim_reverse {M C : zMS} (h : INV M C) {g : zG} {a : Nat → Nat} {o : Nat} {f0 : Nat → Int64} {x : Int32} {κ : Int32} {w1 : va_W} (hW : wPost g o f0 (fun r w' => r = nI (cP C) ∧ w' = wC g a (rvC C (nN x) (nI (cT C))) (4 * cM C) ∧ (rng x (cP C)) ∧ ((cTB C (nN x) ∧ ¬ 0 ≤ C 12 (nN x) ∧ C 13 (nN x) = 0) ∧ cP C < 80)) (fun E w' => w' = wC g a C (4 * cM C) ∧ ((E = "java/lang/IndexOutOfBoundsException" ∧ ¬ (rng x (cP C))) ∨ (E = "java/lang/IllegalStateException" ∧ (rng x (cP C)) ∧ ¬ ((cTB C (nN x) ∧ ¬ 0 ≤ C 12 (nN x) ∧ C 13 (nN x) = 0) ∧ cP C < 80)))) ["java/lang/IndexOutOfBoundsException", "java/lang/IllegalStateException"] κ w1) {r : Int32} {M' : zMS} (hm : (¬ rng x (mP M) → M' = up2 M 0 0 (nI 1)) ∧ (rng x (mP M) → ¬ pTB M (nN x) → M' = up2 M 0 0 (nI 2)) ∧ (rng x (mP M) → pTB M (nN x) → ¬ M 13 (nN x) = (-1) → M' = up2 M 0 0 (nI 2)) ∧ (rng x (mP M) → pTB M (nN x) → M 13 (nN x) = (-1) → ¬ M 14 (nN x) = 0 → M' = up2 M 0 0 (nI 2)) ∧ (rng x (mP M) → pTB M (nN x) → M 13 (nN x) = (-1) → M 14 (nN x) = 0 → 80 ≤ mP M → M' = up2 M 0 0 (nI 2)) ∧ (rng x (mP M) → pTB M (nN x) → M 13 (nN x) = (-1) → M 14 (nN x) = 0 → mP M < 80 → r = nI (mP M) ∧ M' = rvM M (nN x))) : SimR g o (a 0) κ w1 r M' := by
  have bP := MI_b5 h.1
  have hf : ∀ p, p < mP M → (cTB C p ↔ pTB M p) ∧ (¬ 0 ≤ C 12 p ↔ M 13 p = (-1)) ∧ (C 13 p = 0 ↔ M 14 p = 0) := fun p hp => by
    obtain ⟨-, -, -, p4, p5, -⟩ := i_pg h hp
    refine ⟨i_TB h hp, ?_, by rw [p5]⟩
    rw [p4]
    rcases i_rv h hp with e | ⟨n, hn, e⟩
    · rw [e]; exact ⟨fun _ => rfl, fun _ => by decide⟩
    · rw [e]; exact ⟨fun q => absurd (nI_pos' hn) q, fun q => absurd q (nI_nm1 hn)⟩
  rcases hW with ⟨rfl, ans, w2, rfl, hp⟩ | ⟨E, w2, i, hc, rfl, rfl, hx⟩
  · obtain ⟨rfl, rfl, g1, ⟨g2, g3, g4⟩, g5⟩ := hp
    rw [i_P h] at g1 g5
    obtain ⟨p, hp, rfl⟩ := g1
    simp only [nN_nI (show p < 2 ^ 31 by omega)] at *
    obtain ⟨k1, k2, k3⟩ := hf p hp
    obtain ⟨rfl, rfl⟩ := hm.2.2.2.2.2 ⟨p, hp, rfl⟩ (k1.mp g2) (k2.mp g3) (k3.mp g4) g5
    rw [i_P h]
    exact simN (INV_reverse h hp g5) (by unfold rvM; rw [up2_k (by omega), up2_k (by omega), ptN_k _ _ _ _ (by omega), bgM_k (by omega)]; rfl) rfl (m_f (by unfold rvC; rw [up2_k (by omega), up2_k (by omega), apC_k (by omega), opL_k _ _ (by omega)]))
  · obtain ⟨rfl, hx⟩ := hx
    rcases cat_2 hc with ⟨rfl, ec⟩ | ⟨rfl, ec⟩
    · rcases hx with ⟨e, q⟩ | ⟨e, q⟩
      · first | exact absurd (ec.symm.trans e) (by decide) | exact simT h (by decide) (hm.1 (by rw [← i_P h]; exact q))
      · first | exact absurd (ec.symm.trans e) (by decide) | (
           obtain ⟨q1, q2⟩ := q
           rw [i_P h] at q1
           obtain ⟨p, hp, rfl⟩ := q1
           have en : nN (nI p) = p := nN_nI (by omega)
           rw [en] at q2
           obtain ⟨k1, k2, k3⟩ := hf p hp
           have hr : rng (nI p) (mP M) := ⟨p, hp, rfl⟩
           by_cases j1 : pTB M p
           · by_cases j2 : M 13 p = (-1)
             · by_cases j3 : M 14 p = 0
               · exact simT h (by decide) (hm.2.2.2.2.1 hr (en.symm ▸ j1) (en.symm ▸ j2) (en.symm ▸ j3) (by rcases Nat.lt_or_ge (mP M) 80 with k | k; exact absurd ⟨⟨k1.mpr j1, k2.mpr j2, k3.mpr j3⟩, by rw [i_P h]; exact k⟩ q2; exact k))
               · exact simT h (by decide) (hm.2.2.2.1 hr (en.symm ▸ j1) (en.symm ▸ j2) (en.symm ▸ j3))
             · exact simT h (by decide) (hm.2.2.1 hr (en.symm ▸ j1) (en.symm ▸ j2))
           · exact simT h (by decide) (hm.2.1 hr (en.symm ▸ j1)))
    · rcases hx with ⟨e, q⟩ | ⟨e, q⟩
      · first | exact absurd (ec.symm.trans e) (by decide) | exact simT h (by decide) (hm.1 (by rw [← i_P h]; exact q))
      · first | exact absurd (ec.symm.trans e) (by decide) | (
           obtain ⟨q1, q2⟩ := q
           rw [i_P h] at q1
           obtain ⟨p, hp, rfl⟩ := q1
           have en : nN (nI p) = p := nN_nI (by omega)
           rw [en] at q2
           obtain ⟨k1, k2, k3⟩ := hf p hp
           have hr : rng (nI p) (mP M) := ⟨p, hp, rfl⟩
           by_cases j1 : pTB M p
           · by_cases j2 : M 13 p = (-1)
             · by_cases j3 : M 14 p = 0
               · exact simT h (by decide) (hm.2.2.2.2.1 hr (en.symm ▸ j1) (en.symm ▸ j2) (en.symm ▸ j3) (by rcases Nat.lt_or_ge (mP M) 80 with k | k; exact absurd ⟨⟨k1.mpr j1, k2.mpr j2, k3.mpr j3⟩, by rw [i_P h]; exact k⟩ q2; exact k))
               · exact simT h (by decide) (hm.2.2.2.1 hr (en.symm ▸ j1) (en.symm ▸ j2) (en.symm ▸ j3))
             · exact simT h (by decide) (hm.2.2.1 hr (en.symm ▸ j1) (en.symm ▸ j2))
           · exact simT h (by decide) (hm.2.1 hr (en.symm ▸ j1)))
set_option maxHeartbeats 1000000 in
theorem sim_pass {M C : zMS} (h : INV M C) {g : zG} {a : Nat → Nat} {o : Nat} {f0 : Nat → Int64} {x : Int32} {κ : Int32} {w1 : va_W} (hW : wPost g o f0 (fun r w' => r = nI (cT C) + x ∧ w' = wC g a (up2 C 0 0 (nI (cT C) + x)) (4 * cM C) ∧ (¬ x < nI 1 ∧ x ≤ nI 100) ∧ (nI (cT C) + x ≤ nI 400)) (fun E w' => w' = wC g a C (4 * cM C) ∧ ((E = "java/lang/IllegalArgumentException" ∧ ¬ (¬ x < nI 1 ∧ x ≤ nI 100)) ∨ (E = "java/lang/IllegalStateException" ∧ (¬ x < nI 1 ∧ x ≤ nI 100) ∧ ¬ (nI (cT C) + x ≤ nI 400)))) ["java/lang/IllegalArgumentException", "java/lang/IllegalStateException"] κ w1) {r : Int32} {M' : zMS} (hm : (¬ (nI (1) ≤ x ∧ x ≤ nI (100)) → M' = up2 M 0 0 (nI 1)) ∧ ((nI (1) ≤ x ∧ x ≤ nI (100)) → ¬ (nI (mT M) + x) ≤ nI (400) → M' = up2 M 0 0 (nI 2)) ∧ ((nI (1) ≤ x ∧ x ≤ nI (100)) → (nI (mT M) + x) ≤ nI (400) → r = nI (mT M) + x ∧ M' = up2 (up2 M 0 0 (nI 0)) 1 0 (nI (mT M) + x))) : SimR g o (a 0) κ w1 r M' := by
  rcases hW with ⟨rfl, ans, w2, rfl, hp⟩ | ⟨E, w2, i, hc, rfl, rfl, hx⟩
  · obtain ⟨rfl, rfl, g1, g2⟩ := hp
    rw [i_T h] at g2 ⊢
    obtain ⟨rfl, rfl⟩ := hm.2.2 ⟨Int32.not_lt.mp g1.1, g1.2⟩ g2
    have bT := MI_b1 h.1
    obtain ⟨n, hn, rfl⟩ := nI_of (x := x) (fun q => g1.1 (Int32.lt_of_lt_of_le q (by decide)))
    have n1 : n ≤ 100 := (nI_leI hn (by decide)).mp g1.2
    rw [nI_add] at g2 ⊢
    exact simN (INV_pass (M := up2 M 0 0 (nI 0)) (INV_0 h) (Nat.le_add_right _ _) ((nI_leI (by omega) (by decide)).mp g2)) rfl rfl (m_f (by rw [up2_k (by omega)]))
  · obtain ⟨rfl, hx⟩ := hx
    rcases cat_2 hc with ⟨rfl, ec⟩ | ⟨rfl, ec⟩
    · rcases hx with ⟨e, q⟩ | ⟨e, q⟩
      · first | exact absurd (ec.symm.trans e) (by decide) | exact simT h (by decide) (hm.1 (fun r => q ⟨Int32.not_lt.mpr r.1, r.2⟩))
      · first | exact absurd (ec.symm.trans e) (by decide) | exact simT h (by decide) (hm.2.1 ⟨Int32.not_lt.mp q.1.1, q.1.2⟩ (by rw [← i_T h]; exact q.2))
    · rcases hx with ⟨e, q⟩ | ⟨e, q⟩
      · first | exact absurd (ec.symm.trans e) (by decide) | exact simT h (by decide) (hm.1 (fun r => q ⟨Int32.not_lt.mpr r.1, r.2⟩))
      · first | exact absurd (ec.symm.trans e) (by decide) | exact simT h (by decide) (hm.2.1 ⟨Int32.not_lt.mp q.1.1, q.1.2⟩ (by rw [← i_T h]; exact q.2))
set_option maxHeartbeats 1000000 in
theorem sim_burn {M C : zMS} (h : INV M C) {g : zG} {a : Nat → Nat} {o : Nat} {f0 : Nat → Int64} {x y : Int32} {κ : Int32} {w1 : va_W} (hW : wPost g o f0 (fun r w' => r = nI (brK C (nN x) (nN y + 1 - nN x)) ∧ w' = wC g a (brN C (nN x) (nN y + 1 - nN x)) (4 * cM C) ∧ (rng x (cP C)) ∧ (rng y (cP C)) ∧ (¬ nN y < nN x)) (fun E w' => w' = wC g a C (4 * cM C) ∧ ((E = "java/lang/IndexOutOfBoundsException" ∧ ¬ (rng x (cP C))) ∨ (E = "java/lang/IndexOutOfBoundsException" ∧ (rng x (cP C)) ∧ ¬ (rng y (cP C))) ∨ (E = "java/lang/IllegalArgumentException" ∧ (rng x (cP C)) ∧ (rng y (cP C)) ∧ ¬ (¬ nN y < nN x)))) ["java/lang/IndexOutOfBoundsException", "java/lang/IllegalArgumentException"] κ w1) {r : Int32} {M' : zMS} (hm : (¬ rng x (mP M) → M' = up2 M 0 0 (nI 1)) ∧ (rng x (mP M) → ¬ rng y (mP M) → M' = up2 M 0 0 (nI 1)) ∧ (rng x (mP M) → rng y (mP M) → nN y < nN x → M' = up2 M 0 0 (nI 2)) ∧ (rng x (mP M) → rng y (mP M) → nN x ≤ nN y → r = nI (zcnt (fun l => M 12 (nN x + l) = 0) (nN y + 1 - nN x)) ∧ M' = buN (up2 M 0 0 (nI 0)) (nN x) (nN y + 1 - nN x))) : SimR g o (a 0) κ w1 r M' := by
  have bP := MI_b5 h.1
  rcases hW with ⟨rfl, ans, w2, rfl, hp⟩ | ⟨E, w2, i, hc, rfl, rfl, hx⟩
  · obtain ⟨rfl, rfl, g1, g2, g3⟩ := hp
    rw [i_P h] at g1 g2
    obtain ⟨p, hp, rfl⟩ := g1
    obtain ⟨j, hj, rfl⟩ := g2
    simp only [nN_nI (show p < 2 ^ 31 by omega), nN_nI (show j < 2 ^ 31 by omega)] at *
    obtain ⟨hr, rfl⟩ := hm.2.2.2 ⟨p, hp, rfl⟩ ⟨j, hj, rfl⟩ (by omega)
    obtain ⟨b1, b2⟩ := INV_burn (M := up2 M 0 0 (nI 0)) (INV_0 h) (a := p) (i := j + 1 - p) (by show p + (j + 1 - p) ≤ mP M; omega)
    exact simN b1 (by rw [buN_k _ _ (by omega)]; rfl) (by rw [hr, b2]; rfl) (m_f (by rw [brN_k _ _ (by omega)]))
  · obtain ⟨rfl, hx⟩ := hx
    rcases cat_2 hc with ⟨rfl, ec⟩ | ⟨rfl, ec⟩
    · rcases hx with ⟨e, q⟩ | ⟨e, q⟩ | ⟨e, q⟩
      · first | exact absurd (ec.symm.trans e) (by decide) | exact simT h (by decide) (hm.1 (by rw [← i_P h]; exact q))
      · first | exact absurd (ec.symm.trans e) (by decide) | exact simT h (by decide) (hm.2.1 (by rw [← i_P h]; exact q.1) (by rw [← i_P h]; exact q.2))
      · first | exact absurd (ec.symm.trans e) (by decide) | exact simT h (by decide) (hm.2.2.1 (by rw [← i_P h]; exact q.1) (by rw [← i_P h]; exact q.2.1) (Classical.not_not.mp q.2.2))
    · rcases hx with ⟨e, q⟩ | ⟨e, q⟩ | ⟨e, q⟩
      · first | exact absurd (ec.symm.trans e) (by decide) | exact simT h (by decide) (hm.1 (by rw [← i_P h]; exact q))
      · first | exact absurd (ec.symm.trans e) (by decide) | exact simT h (by decide) (hm.2.1 (by rw [← i_P h]; exact q.1) (by rw [← i_P h]; exact q.2))
      · first | exact absurd (ec.symm.trans e) (by decide) | exact simT h (by decide) (hm.2.2.1 (by rw [← i_P h]; exact q.1) (by rw [← i_P h]; exact q.2.1) (Classical.not_not.mp q.2.2))
set_option maxHeartbeats 1000000 in
theorem sim_alter {M C : zMS} (h : INV M C) {g : zG} {a : Nat → Nat} {o : Nat} {f0 : Nat → Int64} {x y z : Int32} {κ : Int32} {w1 : va_W} (hW : wPost g o f0 (fun r w' => r = C 18 (nN x * 4 + nN y) ∧ w' = wC g a (up2 C 18 (nN x * 4 + nN y) z) (4 * cM C) ∧ (rng x (cP C)) ∧ (rng y 4) ∧ ((-10000) ≤ z ∧ z ≤ nI (10000)) ∧ (¬ C 17 (nN x) = 0 ∧ nN y < cL C (nN x))) (fun E w' => w' = wC g a C (4 * cM C) ∧ ((E = "java/lang/IndexOutOfBoundsException" ∧ ¬ (rng x (cP C))) ∨ (E = "java/lang/IllegalArgumentException" ∧ (rng x (cP C)) ∧ ¬ (rng y 4)) ∨ (E = "java/lang/IllegalArgumentException" ∧ (rng x (cP C)) ∧ (rng y 4) ∧ ¬ ((-10000) ≤ z ∧ z ≤ nI (10000))) ∨ (E = "java/lang/IllegalStateException" ∧ (rng x (cP C)) ∧ (rng y 4) ∧ ((-10000) ≤ z ∧ z ≤ nI (10000)) ∧ ¬ (¬ C 17 (nN x) = 0 ∧ nN y < cL C (nN x))))) ["java/lang/IndexOutOfBoundsException", "java/lang/IllegalArgumentException", "java/lang/IllegalStateException"] κ w1) {r : Int32} {M' : zMS} (hm : (¬ rng x (mP M) → M' = up2 M 0 0 (nI 1)) ∧ (rng x (mP M) → ¬ rng y 4 → M' = up2 M 0 0 (nI 2)) ∧ (rng x (mP M) → rng y 4 → ¬ ((-10000) ≤ z ∧ z ≤ nI (10000)) → M' = up2 M 0 0 (nI 2)) ∧ (rng x (mP M) → rng y 4 → ((-10000) ≤ z ∧ z ≤ nI (10000)) → ¬ M 12 (nN x) = 0 → M' = up2 M 0 0 (nI 3)) ∧ (rng x (mP M) → rng y 4 → ((-10000) ≤ z ∧ z ≤ nI (10000)) → M 12 (nN x) = 0 → mL M (nN x) ≤ nN y → M' = up2 M 0 0 (nI 3)) ∧ (rng x (mP M) → rng y 4 → ((-10000) ≤ z ∧ z ≤ nI (10000)) → M 12 (nN x) = 0 → nN y < mL M (nN x) → r = M 11 (4 * nN x + nN y) ∧ M' = up2 (up2 M 0 0 (nI 0)) 11 (4 * nN x + nN y) z)) : SimR g o (a 0) κ w1 r M' := by
  have bP := MI_b5 h.1
  rcases hW with ⟨rfl, ans, w2, rfl, hp⟩ | ⟨E, w2, i, hc, rfl, rfl, hx⟩
  · obtain ⟨rfl, rfl, g1, g2, g3, g4, g5⟩ := hp
    rw [i_P h] at g1
    obtain ⟨p, hp, rfl⟩ := g1
    simp only [nN_nI (show p < 2 ^ 31 by omega)] at *
    rw [i_L h hp] at g5
    have k4 := (i_St0 h hp).mp g4
    obtain ⟨hr, rfl⟩ := hm.2.2.2.2.2 ⟨p, hp, rfl⟩ g2 g3 k4 g5
    refine simN (INV_alter (M := up2 M 0 0 (nI 0)) (INV_0 h) hp k4 g5) rfl ?_ (m_f (by rw [up2_k (by omega)]))
    rw [hr]
    rcases i_nw h hp with ⟨-, -, -, h4, -⟩ | ⟨h1, -⟩ | ⟨h1, -⟩
    · exact h4 _ g5
    · exact absurd (h1.symm.trans k4) n12.1
    · exact absurd (h1.symm.trans k4) n12.2.1
  · obtain ⟨rfl, hx⟩ := hx
    rcases cat_3 hc with ⟨rfl, ec⟩ | ⟨rfl, ec⟩ | ⟨rfl, ec⟩
    · rcases hx with ⟨e, q⟩ | ⟨e, q⟩ | ⟨e, q⟩ | ⟨e, q⟩
      · first | exact absurd (ec.symm.trans e) (by decide) | exact simT h (by decide) (hm.1 (by rw [← i_P h]; exact q))
      · first | exact absurd (ec.symm.trans e) (by decide) | exact simT h (by decide) (hm.2.1 (by rw [← i_P h]; exact q.1) q.2)
      · first | exact absurd (ec.symm.trans e) (by decide) | exact simT h (by decide) (hm.2.2.1 (by rw [← i_P h]; exact q.1) q.2.1 q.2.2)
      · first | exact absurd (ec.symm.trans e) (by decide) | (
           obtain ⟨q1, q2, q3, q4⟩ := q
           rw [i_P h] at q1
           have hr := q1
           obtain ⟨p, hp, rfl⟩ := q1
           have ep : nN (nI p) = p := nN_nI (by omega)
           rw [ep] at q4
           by_cases k : M 12 p = 0
           · refine simT h (by decide) (hm.2.2.2.2.1 hr q2 q3 (ep.symm ▸ k) ?_)
             rw [ep]
             rcases Nat.lt_or_ge (nN y) (mL M p) with k2 | k2
             · exact absurd ⟨(i_St0 h hp).mpr k, by rw [i_L h hp]; exact k2⟩ q4
             · exact k2
           · exact simT h (by decide) (hm.2.2.2.1 hr q2 q3 (ep.symm ▸ k)))
    · rcases hx with ⟨e, q⟩ | ⟨e, q⟩ | ⟨e, q⟩ | ⟨e, q⟩
      · first | exact absurd (ec.symm.trans e) (by decide) | exact simT h (by decide) (hm.1 (by rw [← i_P h]; exact q))
      · first | exact absurd (ec.symm.trans e) (by decide) | exact simT h (by decide) (hm.2.1 (by rw [← i_P h]; exact q.1) q.2)
      · first | exact absurd (ec.symm.trans e) (by decide) | exact simT h (by decide) (hm.2.2.1 (by rw [← i_P h]; exact q.1) q.2.1 q.2.2)
      · first | exact absurd (ec.symm.trans e) (by decide) | (
           obtain ⟨q1, q2, q3, q4⟩ := q
           rw [i_P h] at q1
           have hr := q1
           obtain ⟨p, hp, rfl⟩ := q1
           have ep : nN (nI p) = p := nN_nI (by omega)
           rw [ep] at q4
           by_cases k : M 12 p = 0
           · refine simT h (by decide) (hm.2.2.2.2.1 hr q2 q3 (ep.symm ▸ k) ?_)
             rw [ep]
             rcases Nat.lt_or_ge (nN y) (mL M p) with k2 | k2
             · exact absurd ⟨(i_St0 h hp).mpr k, by rw [i_L h hp]; exact k2⟩ q4
             · exact k2
           · exact simT h (by decide) (hm.2.2.2.1 hr q2 q3 (ep.symm ▸ k)))
    · rcases hx with ⟨e, q⟩ | ⟨e, q⟩ | ⟨e, q⟩ | ⟨e, q⟩
      · first | exact absurd (ec.symm.trans e) (by decide) | exact simT h (by decide) (hm.1 (by rw [← i_P h]; exact q))
      · first | exact absurd (ec.symm.trans e) (by decide) | exact simT h (by decide) (hm.2.1 (by rw [← i_P h]; exact q.1) q.2)
      · first | exact absurd (ec.symm.trans e) (by decide) | exact simT h (by decide) (hm.2.2.1 (by rw [← i_P h]; exact q.1) q.2.1 q.2.2)
      · first | exact absurd (ec.symm.trans e) (by decide) | (
           obtain ⟨q1, q2, q3, q4⟩ := q
           rw [i_P h] at q1
           have hr := q1
           obtain ⟨p, hp, rfl⟩ := q1
           have ep : nN (nI p) = p := nN_nI (by omega)
           rw [ep] at q4
           by_cases k : M 12 p = 0
           · refine simT h (by decide) (hm.2.2.2.2.1 hr q2 q3 (ep.symm ▸ k) ?_)
             rw [ep]
             rcases Nat.lt_or_ge (nN y) (mL M p) with k2 | k2
             · exact absurd ⟨(i_St0 h hp).mpr k, by rw [i_L h hp]; exact k2⟩ q4
             · exact k2
           · exact simT h (by decide) (hm.2.2.2.1 hr q2 q3 (ep.symm ▸ k)))
set_option maxHeartbeats 1000000 in
theorem sim_copy {M C : zMS} (h : INV M C) {g : zG} {a : Nat → Nat} {o : Nat} {f0 : Nat → Int64} {κ : Int32} {w1 : va_W} (hW : wPost g o f0 (fun r w' => mkPost g a C (-1) 0 r w' ∧ (cM C < 16 ∧ zcnt (fun p => cSt C p = 1) (cP C) = 0)) (fun E w' => w' = wC g a C (4 * cM C) ∧ (E = "java/lang/IllegalStateException" ∧ ¬ (cM C < 16 ∧ zcnt (fun p => cSt C p = 1) (cP C) = 0))) ["java/lang/IllegalStateException"] κ w1) {r : Int32} {M' : zMS} (hm : (mC M = 16 → M' = up2 M 0 0 (nI 1)) ∧ (mC M ≠ 16 → 0 < zcnt (fun p => M 12 p = nI 1) (mP M) → M' = up2 M 0 0 (nI 1)) ∧ (mC M ≠ 16 → zcnt (fun p => M 12 p = nI 1) (mP M) = 0 → r = nI (mC M) ∧ M' = mcM (up2 M 0 0 (nI 0)) (-1) 0)) : SimR g o (a 0) κ w1 r M' := by
  have hz : zcnt (fun p => cSt C p = 1) (cP C) = zcnt (fun p => M 12 p = nI 1) (mP M) := by rw [i_P h]; exact zcnt_cg (fun p hp => i_St1 h hp)
  have b15 := MI_b15 h.1
  rcases hW with ⟨rfl, ans, w2, rfl, hp⟩ | ⟨E, w2, i, hc, rfl, rfl, hx⟩
  · obtain ⟨⟨rfl, a', ha', rfl⟩, g1, g2⟩ := hp
    rw [hz] at g2
    rw [i_M h] at g1
    obtain ⟨rfl, rfl⟩ := hm.2.2 (by omega) g2
    refine simNa (a' := a') (INV_copy (M := up2 M 0 0 (nI 0)) (INV_0 h) g1 (Nat.zero_le _) (Or.inl rfl)) (by unfold mcM mc0; rw [up2_k (by omega), cpN_k _ _ _ (by omega), up2_k (by omega), up2_k (by omega), up2_k (by omega), up2_k (by omega), up2_k (by omega)]; rfl) (by rw [i_M h]) ?_ (ha' 0 (by omega))
    rw [mkC_M (by rw [i_M h]; omega)]; omega
  · obtain ⟨rfl, hx⟩ := hx
    rcases cat_1 hc with ⟨rfl, ec⟩
    · obtain ⟨e, q⟩ := hx
      by_cases k : mC M = 16
      · exact simT h (by decide) (hm.1 k)
      · exact simT h (by decide) (hm.2.1 k (Nat.pos_of_ne_zero (fun z => q ⟨by rw [i_M h]; omega, by rw [hz]; exact z⟩)))
set_option maxHeartbeats 1000000 in
theorem sim_copyFrom {M C : zMS} (h : INV M C) {g : zG} {a : Nat → Nat} {o : Nat} {f0 : Nat → Int64} {x : Int32} {κ : Int32} {w1 : va_W} (hW : wPost g o f0 (fun r w' => mkPost g a C x (cE C (nN x)) r w' ∧ (cCx C x) ∧ (cM C < 16 ∧ zcnt (fun p => cSt C p = 1) (cP C) = 0)) (fun E w' => w' = wC g a C (4 * cM C) ∧ ((E = "java/lang/IndexOutOfBoundsException" ∧ ¬ (cCx C x)) ∨ (E = "java/lang/IllegalStateException" ∧ (cCx C x) ∧ ¬ (cM C < 16 ∧ zcnt (fun p => cSt C p = 1) (cP C) = 0)))) ["java/lang/IndexOutOfBoundsException", "java/lang/IllegalStateException"] κ w1) {r : Int32} {M' : zMS} (hm : (¬ pCx M x → M' = up2 M 0 0 (nI 1)) ∧ (pCx M x → mC M = 16 → M' = up2 M 0 0 (nI 2)) ∧ (pCx M x → mC M ≠ 16 → 0 < zcnt (fun p => M 12 p = nI 1) (mP M) → M' = up2 M 0 0 (nI 2)) ∧ (pCx M x → mC M ≠ 16 → zcnt (fun p => M 12 p = nI 1) (mP M) = 0 → r = nI (mC M) ∧ M' = mcM (up2 M 0 0 (nI 0)) x (mE M (nN x)))) : SimR g o (a 0) κ w1 r M' := by
  have hz : zcnt (fun p => cSt C p = 1) (cP C) = zcnt (fun p => M 12 p = nI 1) (mP M) := by rw [i_P h]; exact zcnt_cg (fun p hp => i_St1 h hp)
  have b15 := MI_b15 h.1
  rcases hW with ⟨rfl, ans, w2, rfl, hp⟩ | ⟨E, w2, i, hc, rfl, rfl, hx⟩
  · obtain ⟨⟨rfl, a', ha', rfl⟩, g0, g1, g2⟩ := hp
    rw [hz] at g2
    rw [i_M h] at g1
    have hx := (i_Cx h).mp g0
    obtain ⟨k, rfl, hk, h19⟩ := hx
    have ek : nN (nI k) = k := nN_nI (by omega)
    obtain ⟨rfl, rfl⟩ := hm.2.2.2 ⟨k, rfl, hk, h19⟩ (by omega) g2
    rw [ek, i_E h hk]
    refine simNa (a' := a') (INV_copy (M := up2 M 0 0 (nI 0)) (INV_0 h) g1 (h.2.2.2.2.2.2.2.2.2.2 k hk).2 (Or.inr ⟨k, hk, rfl, h19⟩)) (by unfold mcM mc0; rw [up2_k (by omega), cpN_k _ _ _ (by omega), up2_k (by omega), up2_k (by omega), up2_k (by omega), up2_k (by omega), up2_k (by omega)]; rfl) (by rw [i_M h]) ?_ (ha' 0 (by omega))
    rw [mkC_M (by rw [i_M h]; omega)]; omega
  · obtain ⟨rfl, hx⟩ := hx
    rcases cat_2 hc with ⟨rfl, ec⟩ | ⟨rfl, ec⟩
    · rcases hx with ⟨e, q⟩ | ⟨e, q⟩
      · first | exact absurd (ec.symm.trans e) (by decide) | exact simT h (by decide) (hm.1 (fun r => q ((i_Cx h).mpr r)))
      · first | exact absurd (ec.symm.trans e) (by decide) | (
           obtain ⟨q1, q2⟩ := q
           have q3 := (i_Cx h).mp q1
           by_cases k : mC M = 16
           · exact simT h (by decide) (hm.2.1 q3 k)
           · exact simT h (by decide) (hm.2.2.1 q3 k (Nat.pos_of_ne_zero (fun z => q2 ⟨by rw [i_M h]; omega, by rw [hz]; exact z⟩))))
    · rcases hx with ⟨e, q⟩ | ⟨e, q⟩
      · first | exact absurd (ec.symm.trans e) (by decide) | exact simT h (by decide) (hm.1 (fun r => q ((i_Cx h).mpr r)))
      · first | exact absurd (ec.symm.trans e) (by decide) | (
           obtain ⟨q1, q2⟩ := q
           have q3 := (i_Cx h).mp q1
           by_cases k : mC M = 16
           · exact simT h (by decide) (hm.2.1 q3 k)
           · exact simT h (by decide) (hm.2.2.1 q3 k (Nat.pos_of_ne_zero (fun z => q2 ⟨by rw [i_M h]; omega, by rw [hz]; exact z⟩))))
set_option maxHeartbeats 1000000 in
theorem sim_carry_0 {M C : zMS} (h : INV M C) {g : zG} {a : Nat → Nat} {o : Nat} {f0 : Nat → Int64} {x : Int32} {κ : Int32} {w1 : va_W} (hW : wPost g o f0 (fun r w' => r = nI (0) ∧ w' = wC g a (up2 C (43 + 8 * nN x) 0 (nI 0)) (4 * cM C) ∧ (cCx C x)) (fun E w' => w' = wC g a C (4 * cM C) ∧ (E = "java/lang/IndexOutOfBoundsException" ∧ ¬ (cCx C x))) ["java/lang/IndexOutOfBoundsException"] κ w1) {r : Int32} {M' : zMS} (hm : (¬ pCx M x → M' = up2 M 0 0 (nI 1)) ∧ (pCx M x → r = nI 0 ∧ M' = up2 (up2 M 0 0 (nI 0)) 20 (nN x) (nI 1))) : SimR g o (a 0) κ w1 r M' := by
  have b15 := MI_b15 h.1
  rcases hW with ⟨rfl, ans, w2, rfl, hp⟩ | ⟨E, w2, i, hc, rfl, rfl, hx⟩
  · obtain ⟨rfl, rfl, g1⟩ := hp
    obtain ⟨k, rfl, hk, h19⟩ := (i_Cx h).mp g1
    have hx : pCx M (nI k) := ⟨k, rfl, hk, h19⟩
    simp only [nN_nI (show k < 2 ^ 31 by omega)] at *
    obtain ⟨rfl, rfl⟩ := hm.2 hx
    exact simN (INV_fl (M := up2 M 0 0 (nI 0)) (v := nI 1) (w := nI 0) (INV_0 h) (Or.inr ⟨rfl, rfl⟩)) rfl rfl (m_f (by rw [up2_k (by omega)]))
  · obtain ⟨rfl, hx⟩ := hx
    rcases cat_1 hc with ⟨rfl, ec⟩
    · obtain ⟨e, q⟩ := hx
      exact simT h (by decide) (hm.1 (fun r => q ((i_Cx h).mpr r)))
set_option maxHeartbeats 1000000 in
theorem sim_carry_1 {M C : zMS} (h : INV M C) {g : zG} {a : Nat → Nat} {o : Nat} {f0 : Nat → Int64} {x : Int32} {κ : Int32} {w1 : va_W} (hW : wPost g o f0 (fun r w' => r = nI (bkK (cvC C (nN x)) (nN x) (cE (cvC C (nN x)) (nN x) - cF (cvC C (nN x)) (nN x))) ∧ w' = wC g a (bkN (cvC C (nN x)) (nN x) (cE (cvC C (nN x)) (nN x) - cF (cvC C (nN x)) (nN x))) (4 * cM C) ∧ (cCx C x)) (fun E w' => w' = wC g a C (4 * cM C) ∧ (E = "java/lang/IndexOutOfBoundsException" ∧ ¬ (cCx C x))) ["java/lang/IndexOutOfBoundsException"] κ w1) {r : Int32} {M' : zMS} (hm : (¬ pCx M x → M' = up2 M 0 0 (nI 1)) ∧ (pCx M x → r = nI (zcnt (fun p => M 12 p = nI 2 ∧ pSt M (nN x) p) (mP M)) ∧ M' = up2 (caN (up2 M 0 0 (nI 0)) (nN x) (mP M)) 20 (nN x) (nI 0))) : SimR g o (a 0) κ w1 r M' := by
  have b15 := MI_b15 h.1
  rcases hW with ⟨rfl, ans, w2, rfl, hp⟩ | ⟨E, w2, i, hc, rfl, rfl, hx⟩
  · obtain ⟨rfl, rfl, g1⟩ := hp
    obtain ⟨k, rfl, hk, h19⟩ := (i_Cx h).mp g1
    have hx : pCx M (nI k) := ⟨k, rfl, hk, h19⟩
    simp only [nN_nI (show k < 2 ^ 31 by omega)] at *
    obtain ⟨rfl, rfl⟩ := hm.2 hx
    have h1 : INV (up2 (up2 M 0 0 (nI 0)) 20 k (nI 0)) (cvC C k) := INV_fl (M := up2 M 0 0 (nI 0)) (INV_0 h) (Or.inl ⟨rfl, rfl⟩)
    obtain ⟨b1, b2⟩ := INV_ca h1 (c := k) hk h19 (i := mP M) (Nat.le_refl _)
    have hFE := h.2.2.2.2.2.2.2.2.2.2 k hk
    have em : min (mP M) (mE (up2 (up2 M 0 0 (nI 0)) 20 k (nI 0)) k) - mF (up2 (up2 M 0 0 (nI 0)) 20 k (nI 0)) k = cE (cvC C k) k - cF (cvC C k) k := by
      rw [i_E h1 (k := k) hk, i_F h1 (k := k) hk]
      show min (mP M) (mE M k) - mF M k = mE M k - mF M k
      omega
    rw [em] at b1 b2
    rw [caN_20] at b1
    refine simN b1 ?_ ?_ (m_f (by rw [bkN_k _ _ (by omega)]; unfold cvC; rw [up2_k (by omega)]))
    · rw [up2_k (by omega), caN_k _ _ (by omega)]; rfl
    · rw [b2]; exact congrArg nI (zcnt_cg (fun p _ => Iff.rfl))
  · obtain ⟨rfl, hx⟩ := hx
    rcases cat_1 hc with ⟨rfl, ec⟩
    · obtain ⟨e, q⟩ := hx
      exact simT h (by decide) (hm.1 (fun r => q ((i_Cx h).mpr r)))
set_option maxHeartbeats 1000000 in
theorem sim_rot {M C : zMS} (h : INV M C) {g : zG} {a : Nat → Nat} {o : Nat} {f0 : Nat → Int64} {x y : Int32} {κ : Int32} {w1 : va_W} (hW : wPost g o f0 (fun r w' => r = C (44 + 8 * nN x) (nN y) ∧ w' = wC g a (blC C (44 + 8 * nN x) (45 + 8 * nN x) (nN y)) (4 * cM C) ∧ (cCx C x) ∧ (cIn C (nN x) y)) (fun E w' => w' = wC g a C (4 * cM C) ∧ ((E = "java/lang/IndexOutOfBoundsException" ∧ ¬ (cCx C x)) ∨ (E = "java/lang/IndexOutOfBoundsException" ∧ (cCx C x) ∧ ¬ (cIn C (nN x) y)))) ["java/lang/IndexOutOfBoundsException"] κ w1) {r : Int32} {M' : zMS} (hm : (¬ pBo M x y → M' = up2 M 0 0 (nI 1)) ∧ (pBo M x y → r = M 21 (80 * nN x + nN y) ∧ M' = up2 (up2 M 0 0 (nI 0)) 21 (80 * nN x + nN y) (nI 0))) : SimR g o (a 0) κ w1 r M' := by
  have b15 := MI_b15 h.1
  rcases hW with ⟨rfl, ans, w2, rfl, hp⟩ | ⟨E, w2, i, hc, rfl, rfl, hx⟩
  · obtain ⟨rfl, rfl, g1, g2⟩ := hp
    obtain ⟨k, rfl, hk, h19⟩ := (i_Cx h).mp g1
    have hx : pCx M (nI k) := ⟨k, rfl, hk, h19⟩
    simp only [nN_nI (show k < 2 ^ 31 by omega)] at *
    obtain ⟨j, rfl, hj1, hj2⟩ := g2
    rw [i_F h hk] at hj1
    rw [i_E h hk] at hj2
    have bE := MI_b18 h.1 k
    simp only [nN_nI (show j < 2 ^ 31 by omega)] at *
    have hFE := h.2.2.2.2.2.2.2.2.2.2 k hk
    have hb : pBo M (nI k) (nI j) := ⟨k, j, rfl, rfl, ⟨hk, h19⟩, by omega, hj1, hj2⟩
    obtain ⟨hr, rfl⟩ := hm.2 hb
    refine simN (INV_bl (M := up2 M 0 0 (nI 0)) (INV_0 h) (c := k) (j := j) (by omega) (Or.inl rfl)) rfl ?_ (m_f (by rw [blC_k (by omega)]))
    rw [hr]
    rcases ((i_cp h hk).2.2.2.2.2 h19 j (by omega)).1 ⟨hj1, hj2⟩ with ⟨s1, s2, -⟩ | ⟨s1, s2, -⟩
    · rw [s1, s2]
    · rw [s1, s2]
  · obtain ⟨rfl, hx⟩ := hx
    rcases cat_1 hc with ⟨rfl, ec⟩
    · rcases hx with ⟨e, q⟩ | ⟨e, q⟩
      · first | exact absurd (ec.symm.trans e) (by decide) | exact simT h (by decide) (hm.1 (fun ⟨c, p, e1, e2, hcp, _⟩ => q ((i_Cx h).mpr ⟨c, e1, hcp⟩)))
      · first | exact absurd (ec.symm.trans e) (by decide) | (
           obtain ⟨q1, q2⟩ := q
           exact simT h (by decide) (hm.1 (fun ⟨c, p, e1, e2, hcp, hp2, hh⟩ => q2 (by
             have b15 := MI_b15 h.1
             rw [e1, nN_nI (by have := hcp.1; omega)]
             exact ⟨p, e2, by rw [i_F h hcp.1]; exact hh.1, by rw [i_E h hcp.1]; exact hh.2⟩))))
set_option maxHeartbeats 1000000 in
theorem sim_throwAway {M C : zMS} (h : INV M C) {g : zG} {a : Nat → Nat} {o : Nat} {f0 : Nat → Int64} {x : Int32} {κ : Int32} {w1 : va_W} (hW : wPost g o f0 (fun r w' => r = nI (zcnt (fun k => up2 C 28 (nN x) (nI 0) 28 k = 1) (cM (up2 C 28 (nN x) (nI 0)))) ∧ w' = wC g a (up2 C 28 (nN x) (nI 0)) (4 * cM C) ∧ (cCx C x) ∧ (¬ cIsB C (nN x) ∧ ¬ cAny C (nN x))) (fun E w' => w' = wC g a C (4 * cM C) ∧ ((E = "java/lang/IndexOutOfBoundsException" ∧ ¬ (cCx C x)) ∨ (E = "java/lang/IllegalStateException" ∧ (cCx C x) ∧ ¬ (¬ cIsB C (nN x) ∧ ¬ cAny C (nN x))))) ["java/lang/IndexOutOfBoundsException", "java/lang/IllegalStateException"] κ w1) {r : Int32} {M' : zMS} (hm : (¬ pCx M x → M' = up2 M 0 0 (nI 1)) ∧ (pCx M x → pBase M x → M' = up2 M 0 0 (nI 2)) ∧ (pCx M x → ¬ pBase M x → pBl M (nN x) (mP M) → M' = up2 M 0 0 (nI 2)) ∧ (pCx M x → ¬ pBase M x → ¬ pBl M (nN x) (mP M) → r = nI (zcnt (fun k => (up2 M 19 (nN x) (nI 1)) 19 k = 0) (mC M)) ∧ M' = up2 (up2 M 0 0 (nI 0)) 19 (nN x) (nI 1))) : SimR g o (a 0) κ w1 r M' := by
  have b15 := MI_b15 h.1
  have hB : ∀ k, k < mC M → (cIsB C k ↔ pBase M (nI k)) := fun k hk => by
    unfold cIsB pBase
    rw [i_M h]
    exact ⟨fun ⟨j, hj, h1, h2⟩ => ⟨j, hj, (i_28 h hj).mp h1, (i_cp h hj).1.symm.trans h2⟩, fun ⟨j, hj, h1, h2⟩ => ⟨j, hj, (i_28 h hj).mpr h1, (i_cp h hj).1.trans h2⟩⟩
  have hA : ∀ k, k < mC M → M 19 k = 0 → (cAny C k ↔ pBl M k (mP M)) := fun k hk h19 => by
    have hFE := h.2.2.2.2.2.2.2.2.2.2 k hk
    have bP := MI_b5 h.1
    unfold cAny pBl
    rw [i_F h hk, i_E h hk]
    constructor
    · rintro ⟨i, hi, h1, h2⟩
      exact ⟨mF M k + i, by omega, (i_Fi h hk h19 (by omega)).mp h1, by rw [← i_HS h (by omega)]; exact h2⟩
    · rintro ⟨p, hp, h1, h2⟩
      obtain ⟨hh1, hh2⟩ := h1.1
      refine ⟨p - mF M k, by omega, ?_, ?_⟩
      · rw [show mF M k + (p - mF M k) = p by omega]; exact (i_Fi h hk h19 (by omega)).mpr h1
      · rw [show mF M k + (p - mF M k) = p by omega, i_HS h hp]; exact h2
  rcases hW with ⟨rfl, ans, w2, rfl, hp⟩ | ⟨E, w2, i, hc, rfl, rfl, hx⟩
  · obtain ⟨rfl, rfl, g1, g2, g3⟩ := hp
    obtain ⟨k, rfl, hk, h19⟩ := (i_Cx h).mp g1
    have hx : pCx M (nI k) := ⟨k, rfl, hk, h19⟩
    simp only [nN_nI (show k < 2 ^ 31 by omega)] at *
    obtain ⟨rfl, rfl⟩ := hm.2.2.2 hx (fun z => g2 ((hB k hk).mpr z)) (fun z => g3 ((hA k hk h19).mpr z))
    have h1 := INV_thr (M := up2 M 0 0 (nI 0)) (INV_0 h) (c := k) (fun z => g2 ((hB k hk).mpr z)) hk
    refine simN h1 rfl ?_ (m_f (by rw [up2_k (by omega)]))
    rw [i_M h1]
    exact congrArg nI (zcnt_cg (fun p hp => i_28 h1 hp))
  · obtain ⟨rfl, hx⟩ := hx
    rcases cat_2 hc with ⟨rfl, ec⟩ | ⟨rfl, ec⟩
    · rcases hx with ⟨e, q⟩ | ⟨e, q⟩
      · first | exact absurd (ec.symm.trans e) (by decide) | exact simT h (by decide) (hm.1 (fun r => q ((i_Cx h).mpr r)))
      · first | exact absurd (ec.symm.trans e) (by decide) | (
           obtain ⟨q1, q2⟩ := q
           have hx := (i_Cx h).mp q1
           obtain ⟨k, rfl, hk, h19⟩ := hx
           have ek : nN (nI k) = k := nN_nI (by omega)
           rw [ek] at q2
           by_cases z : pBase M (nI k)
           · exact simT h (by decide) (hm.2.1 ⟨k, rfl, hk, h19⟩ z)
           · refine simT h (by decide) (hm.2.2.1 ⟨k, rfl, hk, h19⟩ z ?_)
             rw [ek]
             exact Classical.byContradiction (fun z2 => q2 ⟨fun z3 => z ((hB k hk).mp z3), fun z3 => z2 ((hA k hk h19).mp z3)⟩))
    · rcases hx with ⟨e, q⟩ | ⟨e, q⟩
      · first | exact absurd (ec.symm.trans e) (by decide) | exact simT h (by decide) (hm.1 (fun r => q ((i_Cx h).mpr r)))
      · first | exact absurd (ec.symm.trans e) (by decide) | (
           obtain ⟨q1, q2⟩ := q
           have hx := (i_Cx h).mp q1
           obtain ⟨k, rfl, hk, h19⟩ := hx
           have ek : nN (nI k) = k := nN_nI (by omega)
           rw [ek] at q2
           by_cases z : pBase M (nI k)
           · exact simT h (by decide) (hm.2.1 ⟨k, rfl, hk, h19⟩ z)
           · refine simT h (by decide) (hm.2.2.1 ⟨k, rfl, hk, h19⟩ z ?_)
             rw [ek]
             exact Classical.byContradiction (fun z2 => q2 ⟨fun z3 => z ((hB k hk).mp z3), fun z3 => z2 ((hA k hk h19).mp z3)⟩))
