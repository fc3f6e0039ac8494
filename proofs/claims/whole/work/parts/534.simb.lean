/-! the calls, on -/
set_option maxHeartbeats 1000000 in
theorem sim_restore {M C : zMS} (h : INV M C) {g : zG} {a : Nat → Nat} {o : Nat} {f0 : Nat → Int64} {x : Int32} {κ : Int32} {w1 : va_W} (hW : wPost g o f0 (fun r w' => r = nI (gbB (chN (cBs C) (nN x)) C) ∧ w' = wC g a (gbA (chN (cBs C) (nN x)) C) (4 * cM C) ∧ (cCx C x) ∧ (cWh C (nN x))) (fun E w' => w' = wC g a C (4 * cM C) ∧ ((E = "java/lang/IndexOutOfBoundsException" ∧ ¬ (cCx C x)) ∨ (E = "java/lang/IllegalStateException" ∧ (cCx C x) ∧ ¬ (cWh C (nN x))))) ["java/lang/IndexOutOfBoundsException", "java/lang/IllegalStateException"] κ w1) {r : Int32} {M' : zMS} (hm : (¬ pCx M x → M' = up2 M 0 0 (nI 1)) ∧ (pCx M x → ¬ pWh M (nN x) → M' = up2 M 0 0 (nI 2)) ∧ (pCx M x → pWh M (nN x) → r = nI (rsB (mP M) (chN (M 16) (nN x)) (up2 M 0 0 (nI 0))) ∧ M' = rsA (mP M) (chN (M 16) (nN x)) (up2 M 0 0 (nI 0)))) : SimR g o (a 0) κ w1 r M' := by
  have b15 := MI_b15 h.1
  rcases hW with ⟨rfl, ans, w2, rfl, hp⟩ | ⟨E, w2, i, hc, rfl, rfl, hx⟩
  · obtain ⟨rfl, rfl, g1, g2⟩ := hp
    obtain ⟨k, rfl, hk, h19⟩ := (i_Cx h).mp g1
    have hx : pCx M (nI k) := ⟨k, rfl, hk, h19⟩
    simp only [nN_nI (show k < 2 ^ 31 by omega)] at *
    obtain ⟨hr, rfl⟩ := hm.2.2 hx ((i_Wh h hk h19).mp g2)
    rw [i_ch h hk]
    obtain ⟨b1, b2⟩ := INV_rsA (np := mP M) (L := chN (M 16) k) (M := up2 M 0 0 (nI 0)) (INV_0 h) rfl (i_pr h hk h19)
    refine simN b1 ?_ (by rw [hr, b2]) (m_f (gbA_k (by omega) _ _))
    rw [rsA_k (by omega) _ _]; rfl
  · obtain ⟨rfl, hx⟩ := hx
    rcases cat_2 hc with ⟨rfl, ec⟩ | ⟨rfl, ec⟩
    · rcases hx with ⟨e, q⟩ | ⟨e, q⟩
      · first | exact absurd (ec.symm.trans e) (by decide) | exact simT h (by decide) (hm.1 (fun r => q ((i_Cx h).mpr r)))
      · first | exact absurd (ec.symm.trans e) (by decide) | (
           obtain ⟨q1, q2⟩ := q
           obtain ⟨k, rfl, hk, h19⟩ := (i_Cx h).mp q1
           have ek : nN (nI k) = k := nN_nI (by omega)
           rw [ek] at q2
           exact simT h (by decide) (hm.2.1 ⟨k, rfl, hk, h19⟩ (by rw [ek]; exact fun z => q2 ((i_Wh h hk h19).mpr z))))
    · rcases hx with ⟨e, q⟩ | ⟨e, q⟩
      · first | exact absurd (ec.symm.trans e) (by decide) | exact simT h (by decide) (hm.1 (fun r => q ((i_Cx h).mpr r)))
      · first | exact absurd (ec.symm.trans e) (by decide) | (
           obtain ⟨q1, q2⟩ := q
           obtain ⟨k, rfl, hk, h19⟩ := (i_Cx h).mp q1
           have ek : nN (nI k) = k := nN_nI (by omega)
           rw [ek] at q2
           exact simT h (by decide) (hm.2.1 ⟨k, rfl, hk, h19⟩ (by rw [ek]; exact fun z => q2 ((i_Wh h hk h19).mpr z))))
set_option maxHeartbeats 1000000 in
theorem sim_open {M C : zMS} (h : INV M C) {g : zG} {a : Nat → Nat} {o : Nat} {f0 : Nat → Int64} {κ : Int32} {w1 : va_W} (hW : wPost g o f0 (fun r w' => r = nI (cK C) ∧ w' = wC g a (up2 (up2 C 21 (cK C) (nI 1)) 22 0 (nI (cK C + 1))) (4 * cM C) ∧ (cK C < 8)) (fun E w' => w' = wC g a C (4 * cM C) ∧ (E = "java/lang/IllegalStateException" ∧ ¬ (cK C < 8))) ["java/lang/IllegalStateException"] κ w1) {r : Int32} {M' : zMS} (hm : (mK M = 8 → M' = up2 M 0 0 (nI 1)) ∧ (mK M ≠ 8 → r = nI (mK M) ∧ M' = up2 (up2 (up2 M 0 0 (nI 0)) 24 (mK M) (nI 0)) 23 0 (nI (mK M + 1)))) : SimR g o (a 0) κ w1 r M' := by
  rcases hW with ⟨rfl, ans, w2, rfl, hp⟩ | ⟨E, w2, i, hc, rfl, rfl, hx⟩
  · obtain ⟨rfl, rfl, g1⟩ := hp
    rw [i_K h] at g1 ⊢
    obtain ⟨rfl, rfl⟩ := hm.2 (by omega)
    exact simN (INV_open (M := up2 M 0 0 (nI 0)) (INV_0 h) g1) rfl rfl (m_f (by rw [up2_k (by omega), up2_k (by omega)]))
  · obtain ⟨rfl, hx⟩ := hx
    rcases cat_1 hc with ⟨rfl, ec⟩
    · obtain ⟨e, q⟩ := hx
      exact simT h (by decide) (hm.1 (by have := i_K h; have := MI_b23 h.1; omega))
set_option maxHeartbeats 1000000 in
theorem sim_close {M C : zMS} (h : INV M C) {g : zG} {a : Nat → Nat} {o : Nat} {f0 : Nat → Int64} {x : Int32} {κ : Int32} {w1 : va_W} (hW : wPost g o f0 (fun r w' => r = nI (zcnt (fun p => cHS C p = (nI 1 <<< (x &&& 31))) (cP C)) ∧ w' = wC g a (up2 C 21 (nN x) (nI 0)) (4 * cM C) ∧ (rng x (cK C)) ∧ (¬ C 21 (nN x) = 0)) (fun E w' => w' = wC g a C (4 * cM C) ∧ ((E = "java/lang/IndexOutOfBoundsException" ∧ ¬ (rng x (cK C))) ∨ (E = "java/lang/IllegalStateException" ∧ (rng x (cK C)) ∧ ¬ (¬ C 21 (nN x) = 0)))) ["java/lang/IndexOutOfBoundsException", "java/lang/IllegalStateException"] κ w1) {r : Int32} {M' : zMS} (hm : (¬ rng x (mK M) → M' = up2 M 0 0 (nI 1)) ∧ (rng x (mK M) → ¬ M 24 (nN x) = 0 → M' = up2 M 0 0 (nI 2)) ∧ (rng x (mK M) → M 24 (nN x) = 0 → r = nI (zcnt (fun p => hS M p = (nI (1) <<< (x &&& 31))) (mP M)) ∧ M' = up2 (up2 M 0 0 (nI 0)) 24 (nN x) (nI 1))) : SimR g o (a 0) κ w1 r M' := by
  have b8 := MI_b23 h.1
  rcases hW with ⟨rfl, ans, w2, rfl, hp⟩ | ⟨E, w2, i, hc, rfl, rfl, hx⟩
  · obtain ⟨rfl, rfl, g1, g2⟩ := hp
    rw [i_K h] at g1
    obtain ⟨c, hc2, rfl⟩ := g1
    simp only [nN_nI (show c < 2 ^ 31 by omega)] at *
    obtain ⟨rfl, rfl⟩ := hm.2.2 ⟨c, hc2, rfl⟩ ((i_21n h hc2).mp g2)
    refine simN (INV_close (M := up2 M 0 0 (nI 0)) (INV_0 h)) rfl ?_ (m_f (by rw [up2_k (by omega)]))
    rw [i_P h]
    exact congrArg nI (zcnt_cg (fun p hp => by rw [i_HS h hp]))
  · obtain ⟨rfl, hx⟩ := hx
    rcases cat_2 hc with ⟨rfl, ec⟩ | ⟨rfl, ec⟩
    · rcases hx with ⟨e, q⟩ | ⟨e, q⟩
      · first | exact absurd (ec.symm.trans e) (by decide) | exact simT h (by decide) (hm.1 (by rw [← i_K h]; exact q))
      · first | exact absurd (ec.symm.trans e) (by decide) | (
           obtain ⟨q1, q2⟩ := q
           rw [i_K h] at q1
           obtain ⟨c, hc2, rfl⟩ := q1
           have ec2 : nN (nI c) = c := nN_nI (by omega)
           rw [ec2] at q2
           exact simT h (by decide) (hm.2.1 ⟨c, hc2, rfl⟩ (by rw [ec2]; exact fun z => q2 ((i_21n h hc2).mpr z))))
    · rcases hx with ⟨e, q⟩ | ⟨e, q⟩
      · first | exact absurd (ec.symm.trans e) (by decide) | exact simT h (by decide) (hm.1 (by rw [← i_K h]; exact q))
      · first | exact absurd (ec.symm.trans e) (by decide) | (
           obtain ⟨q1, q2⟩ := q
           rw [i_K h] at q1
           obtain ⟨c, hc2, rfl⟩ := q1
           have ec2 : nN (nI c) = c := nN_nI (by omega)
           rw [ec2] at q2
           exact simT h (by decide) (hm.2.1 ⟨c, hc2, rfl⟩ (by rw [ec2]; exact fun z => q2 ((i_21n h hc2).mpr z))))
set_option maxHeartbeats 1000000 in
theorem sim_hold {M C : zMS} (h : INV M C) {g : zG} {a : Nat → Nat} {o : Nat} {f0 : Nat → Int64} {x y f t : Int32} {κ : Int32} {w1 : va_W} (hW : wPost g o f0 (fun r w' => r = nI (zcnt (fun p => ¬ cHS (up2 (up2 (up2 (up2 (up2 C 23 (cH C) x) 24 (cH C) y) 25 (cH C) f) 26 (cH C) t) 27 0 (nI (cH C + 1))) p &&& (nI 1 <<< (x &&& 31)) = 0) (cP (up2 (up2 (up2 (up2 (up2 C 23 (cH C) x) 24 (cH C) y) 25 (cH C) f) 26 (cH C) t) 27 0 (nI (cH C + 1))))) ∧ w' = wC g a (up2 (up2 (up2 (up2 (up2 C 23 (cH C) x) 24 (cH C) y) 25 (cH C) f) 26 (cH C) t) 27 0 (nI (cH C + 1))) (4 * cM C) ∧ (rng x (cK C)) ∧ (rng y 8) ∧ (¬ f < 0 ∧ f ≤ t ∧ t ≤ nI 400) ∧ (¬ C 21 (nN x) = 0 ∧ cH C < 30)) (fun E w' => w' = wC g a C (4 * cM C) ∧ ((E = "java/lang/IndexOutOfBoundsException" ∧ ¬ (rng x (cK C))) ∨ (E = "java/lang/IndexOutOfBoundsException" ∧ (rng x (cK C)) ∧ ¬ (rng y 8)) ∨ (E = "java/lang/IllegalArgumentException" ∧ (rng x (cK C)) ∧ (rng y 8) ∧ ¬ (¬ f < 0 ∧ f ≤ t ∧ t ≤ nI 400)) ∨ (E = "java/lang/IllegalStateException" ∧ (rng x (cK C)) ∧ (rng y 8) ∧ (¬ f < 0 ∧ f ≤ t ∧ t ≤ nI 400) ∧ ¬ (¬ C 21 (nN x) = 0 ∧ cH C < 30)))) ["java/lang/IndexOutOfBoundsException", "java/lang/IllegalArgumentException", "java/lang/IllegalStateException"] κ w1) {r : Int32} {M' : zMS} (hm : (¬ rng x (mK M) → M' = up2 M 0 0 (nI 1)) ∧ (rng x (mK M) → ¬ rng y 8 → M' = up2 M 0 0 (nI 1)) ∧ (rng x (mK M) → rng y 8 → ¬ rng f 401 → M' = up2 M 0 0 (nI 2)) ∧ (rng x (mK M) → rng y 8 → rng f 401 → ¬ (f ≤ t ∧ t ≤ nI (400)) → M' = up2 M 0 0 (nI 2)) ∧ (rng x (mK M) → rng y 8 → rng f 401 → (f ≤ t ∧ t ≤ nI (400)) → ¬ M 24 (nN x) = 0 → M' = up2 M 0 0 (nI 3)) ∧ (rng x (mK M) → rng y 8 → rng f 401 → (f ≤ t ∧ t ≤ nI (400)) → M 24 (nN x) = 0 → 30 ≤ mH M → M' = up2 M 0 0 (nI 3)) ∧ (rng x (mK M) → rng y 8 → rng f 401 → (f ≤ t ∧ t ≤ nI (400)) → M 24 (nN x) = 0 → mH M < 30 → r = nI (zcnt (fun p => pRe (hoM M x y f t) x p) (mP M)) ∧ M' = hoM M x y f t)) : SimR g o (a 0) κ w1 r M' := by
  have b8 := MI_b23 h.1
  have hf : (¬ f < 0 ∧ f ≤ nI 400) ↔ rng f 401 := by
    rw [← rng_in' (n := 400) (by decide)]
    exact ⟨fun z => ⟨Int32.not_lt.mp z.1, z.2⟩, fun z => ⟨Int32.not_lt.mpr z.1, z.2⟩⟩
  have hf0 : rng f 401 → ¬ f < 0 := fun z => (hf.mpr z).1
  rcases hW with ⟨rfl, ans, w2, rfl, hp⟩ | ⟨E, w2, i, hc, rfl, rfl, hx⟩
  · obtain ⟨rfl, rfl, g1, g2, ⟨g3, g4, g5⟩, g6, g7⟩ := hp
    rw [i_K h] at g1
    obtain ⟨c, hc2, rfl⟩ := g1
    simp only [nN_nI (show c < 2 ^ 31 by omega)] at *
    rw [i_H h] at g7
    have k24 := (i_21n h hc2).mp g6
    obtain ⟨rfl, rfl⟩ := hm.2.2.2.2.2.2 ⟨c, hc2, rfl⟩ g2 (hf.mp ⟨g3, Int32.le_trans g4 g5⟩) ⟨g4, g5⟩ k24 g7
    rw [i_H h]
    have h1 := INV_hold (y := y) (f := f) (t := t) h hc2 g7
    refine simN h1 rfl ?_ (m_f (by rw [up2_k (by omega), up2_k (by omega), up2_k (by omega), up2_k (by omega), up2_k (by omega)]))
    rw [i_P h1]
    refine congrArg nI (zcnt_cg (fun p hp => ?_))
    rw [i_HS h1 hp]
    unfold hS
    have := hB_bit (Q := fun k => hoM M (nI c) y f t 24 k = 0 ∧ pRe (hoM M (nI c) y f t) (nI k) p) (c := c) (by omega) (n := mK (hoM M (nI c) y f t)) (MI_b23 h1.1)
    unfold bt at this
    rw [this]
    exact ⟨fun z => (Classical.not_not.mp z).2.2, fun z => not_not_intro ⟨hc2, k24, z⟩⟩
  · obtain ⟨rfl, hx⟩ := hx
    rcases cat_3 hc with ⟨rfl, ec⟩ | ⟨rfl, ec⟩ | ⟨rfl, ec⟩
    · rcases hx with ⟨e, q⟩ | ⟨e, q⟩ | ⟨e, q⟩ | ⟨e, q⟩
      · first | exact absurd (ec.symm.trans e) (by decide) | exact simT h (by decide) (hm.1 (by rw [← i_K h]; exact q))
      · first | exact absurd (ec.symm.trans e) (by decide) | exact simT h (by decide) (hm.2.1 (by rw [← i_K h]; exact q.1) q.2)
      · first | exact absurd (ec.symm.trans e) (by decide) | (
           obtain ⟨q1, q2, q3⟩ := q
           rw [i_K h] at q1
           by_cases z : rng f 401
           · exact simT h (by decide) (hm.2.2.2.1 q1 q2 z (fun z2 => q3 ⟨(hf0 z), z2.1, z2.2⟩))
           · exact simT h (by decide) (hm.2.2.1 q1 q2 z))
      · first | exact absurd (ec.symm.trans e) (by decide) | (
           obtain ⟨q1, q2, ⟨q3, q4, q5⟩, q6⟩ := q
           rw [i_K h] at q1
           have hr := q1
           obtain ⟨c, hc2, rfl⟩ := q1
           have ec2 : nN (nI c) = c := nN_nI (by omega)
           rw [ec2] at q6
           have hf1 := hf.mp ⟨q3, Int32.le_trans q4 q5⟩
           by_cases z : M 24 c = 0
           · refine simT h (by decide) (hm.2.2.2.2.2.1 hr q2 hf1 ⟨q4, q5⟩ (ec2.symm ▸ z) ?_)
             rcases Nat.lt_or_ge (mH M) 30 with k | k
             · exact absurd ⟨(i_21n h hc2).mpr z, by rw [i_H h]; exact k⟩ q6
             · exact k
           · exact simT h (by decide) (hm.2.2.2.2.1 hr q2 hf1 ⟨q4, q5⟩ (ec2.symm ▸ z)))
    · rcases hx with ⟨e, q⟩ | ⟨e, q⟩ | ⟨e, q⟩ | ⟨e, q⟩
      · first | exact absurd (ec.symm.trans e) (by decide) | exact simT h (by decide) (hm.1 (by rw [← i_K h]; exact q))
      · first | exact absurd (ec.symm.trans e) (by decide) | exact simT h (by decide) (hm.2.1 (by rw [← i_K h]; exact q.1) q.2)
      · first | exact absurd (ec.symm.trans e) (by decide) | (
           obtain ⟨q1, q2, q3⟩ := q
           rw [i_K h] at q1
           by_cases z : rng f 401
           · exact simT h (by decide) (hm.2.2.2.1 q1 q2 z (fun z2 => q3 ⟨(hf0 z), z2.1, z2.2⟩))
           · exact simT h (by decide) (hm.2.2.1 q1 q2 z))
      · first | exact absurd (ec.symm.trans e) (by decide) | (
           obtain ⟨q1, q2, ⟨q3, q4, q5⟩, q6⟩ := q
           rw [i_K h] at q1
           have hr := q1
           obtain ⟨c, hc2, rfl⟩ := q1
           have ec2 : nN (nI c) = c := nN_nI (by omega)
           rw [ec2] at q6
           have hf1 := hf.mp ⟨q3, Int32.le_trans q4 q5⟩
           by_cases z : M 24 c = 0
           · refine simT h (by decide) (hm.2.2.2.2.2.1 hr q2 hf1 ⟨q4, q5⟩ (ec2.symm ▸ z) ?_)
             rcases Nat.lt_or_ge (mH M) 30 with k | k
             · exact absurd ⟨(i_21n h hc2).mpr z, by rw [i_H h]; exact k⟩ q6
             · exact k
           · exact simT h (by decide) (hm.2.2.2.2.1 hr q2 hf1 ⟨q4, q5⟩ (ec2.symm ▸ z)))
    · rcases hx with ⟨e, q⟩ | ⟨e, q⟩ | ⟨e, q⟩ | ⟨e, q⟩
      · first | exact absurd (ec.symm.trans e) (by decide) | exact simT h (by decide) (hm.1 (by rw [← i_K h]; exact q))
      · first | exact absurd (ec.symm.trans e) (by decide) | exact simT h (by decide) (hm.2.1 (by rw [← i_K h]; exact q.1) q.2)
      · first | exact absurd (ec.symm.trans e) (by decide) | (
           obtain ⟨q1, q2, q3⟩ := q
           rw [i_K h] at q1
           by_cases z : rng f 401
           · exact simT h (by decide) (hm.2.2.2.1 q1 q2 z (fun z2 => q3 ⟨(hf0 z), z2.1, z2.2⟩))
           · exact simT h (by decide) (hm.2.2.1 q1 q2 z))
      · first | exact absurd (ec.symm.trans e) (by decide) | (
           obtain ⟨q1, q2, ⟨q3, q4, q5⟩, q6⟩ := q
           rw [i_K h] at q1
           have hr := q1
           obtain ⟨c, hc2, rfl⟩ := q1
           have ec2 : nN (nI c) = c := nN_nI (by omega)
           rw [ec2] at q6
           have hf1 := hf.mp ⟨q3, Int32.le_trans q4 q5⟩
           by_cases z : M 24 c = 0
           · refine simT h (by decide) (hm.2.2.2.2.2.1 hr q2 hf1 ⟨q4, q5⟩ (ec2.symm ▸ z) ?_)
             rcases Nat.lt_or_ge (mH M) 30 with k | k
             · exact absurd ⟨(i_21n h hc2).mpr z, by rw [i_H h]; exact k⟩ q6
             · exact k
           · exact simT h (by decide) (hm.2.2.2.2.1 hr q2 hf1 ⟨q4, q5⟩ (ec2.symm ▸ z)))
set_option maxHeartbeats 1000000 in
theorem sim_strike {M C : zMS} (h : INV M C) {g : zG} {a : Nat → Nat} {o : Nat} {f0 : Nat → Int64} {x y : Int32} {κ : Int32} {w1 : va_W} (hW : wPost g o f0 (fun r w' => r = nI (cCF (bvN (stC C (nN y)) (nN y) (cM (stC C (nN y)))) (nN y)) ∧ w' = wC g a (bvN (stC C (nN y)) (nN y) (cM (stC C (nN y)))) (4 * cM C) ∧ (rng x (cK C)) ∧ (rng y (cP C)) ∧ (cMay C (nN x) (nN y))) (fun E w' => w' = wC g a C (4 * cM C) ∧ ((E = "java/lang/IndexOutOfBoundsException" ∧ ¬ (rng x (cK C))) ∨ (E = "java/lang/IndexOutOfBoundsException" ∧ (rng x (cK C)) ∧ ¬ (rng y (cP C))) ∨ (E = "java/lang/IllegalStateException" ∧ (rng x (cK C)) ∧ (rng y (cP C)) ∧ ¬ (cMay C (nN x) (nN y))))) ["java/lang/IndexOutOfBoundsException", "java/lang/IllegalStateException"] κ w1) {r : Int32} {M' : zMS} (hm : (¬ rng x (mK M) → M' = up2 M 0 0 (nI 1)) ∧ (rng x (mK M) → ¬ rng y (mP M) → M' = up2 M 0 0 (nI 1)) ∧ (rng x (mK M) → rng y (mP M) → ¬ pMay M (nN x) (nN y) → M' = up2 M 0 0 (nI 2)) ∧ (rng x (mK M) → rng y (mP M) → pMay M (nN x) (nN y) → r = nI (zcnt (fun k => M 19 k = 0 ∧ pSt (skN (up2 M 0 0 (nI 0)) (nN y) (k + 1)) k (nN y)) (mC M)) ∧ M' = skN (up2 M 0 0 (nI 0)) (nN y) (mC M))) : SimR g o (a 0) κ w1 r M' := by
  have b8 := MI_b23 h.1
  have bP := MI_b5 h.1
  rcases hW with ⟨rfl, ans, w2, rfl, hp⟩ | ⟨E, w2, i, hc, rfl, rfl, hx⟩
  · obtain ⟨rfl, rfl, g1, g2, g3⟩ := hp
    rw [i_K h] at g1
    obtain ⟨c, hc2, rfl⟩ := g1
    simp only [nN_nI (show c < 2 ^ 31 by omega)] at *
    rw [i_P h] at g2
    obtain ⟨p, hp, rfl⟩ := g2
    simp only [nN_nI (show p < 2 ^ 31 by omega)] at *
    obtain ⟨hr, rfl⟩ := hm.2.2.2 ⟨c, hc2, rfl⟩ ⟨p, hp, rfl⟩ ((i_May h hc2 hp).mp g3)
    have h0 := INV_st (M := up2 M 0 0 (nI 0)) (INV_0 h) hp
    have eM : cM (stC C p) = mC M := (i_M h0).trans rfl
    rw [eM]
    have h1 := INV_sk h0 (by omega) (i := mC M) (Nat.le_refl _)
    have e20 : bvN (stC C p) p (mC M) 20 = C 20 := by rw [bvN_k _ _ (by omega)]; unfold stC; rw [blC_k (by omega), up2_k (by omega)]
    refine simN h1 (by rw [skN_k _ _ (by omega)]; rfl) ?_ (m_f e20)
    rw [hr]
    have e15 : mC (skN (up2 M 0 0 (nI 0)) p (mC M)) = mC M := mC_f (skN_k _ _ (by omega) _)
    unfold cCF
    rw [i_M h1, e15]
    refine congrArg nI (zcnt_cg (fun k hk => ?_))
    have hk' : k < mC (skN (up2 M 0 0 (nI 0)) p (mC M)) := by rw [e15]; exact hk
    have e19 : skN (up2 M 0 0 (nI 0)) p (mC M) 19 k = M 19 k := by rw [skN_k _ _ (by omega)]; rfl
    rw [i_28 h1 hk', e19]
    refine ⟨fun z => ⟨z.1, ?_⟩, fun z => ⟨z.1, ?_⟩⟩
    · have := (i_Fi h1 hk' (e19.trans z.1) (p := p) (by omega)).mp z.2
      exact ⟨skN_Has.mpr (skN_Has.mp this.1), by rw [← skN_st (by omega) (show k + 1 ≤ mC M by omega)]; exact this.2⟩
    · exact (i_Fi h1 hk' (e19.trans z.1) (p := p) (by omega)).mpr ⟨skN_Has.mpr (skN_Has.mp z.2.1), by rw [skN_st (by omega) (show k + 1 ≤ mC M by omega)]; exact z.2.2⟩
  · obtain ⟨rfl, hx⟩ := hx
    rcases cat_2 hc with ⟨rfl, ec⟩ | ⟨rfl, ec⟩
    · rcases hx with ⟨e, q⟩ | ⟨e, q⟩ | ⟨e, q⟩
      · first | exact absurd (ec.symm.trans e) (by decide) | exact simT h (by decide) (hm.1 (by rw [← i_K h]; exact q))
      · first | exact absurd (ec.symm.trans e) (by decide) | exact simT h (by decide) (hm.2.1 (by rw [← i_K h]; exact q.1) (by rw [← i_P h]; exact q.2))
      · first | exact absurd (ec.symm.trans e) (by decide) | (
           obtain ⟨q1, q2, q3⟩ := q
           rw [i_K h] at q1
           rw [i_P h] at q2
           obtain ⟨c, hc2, rfl⟩ := q1
           obtain ⟨p, hp, rfl⟩ := q2
           have ec2 : nN (nI c) = c := nN_nI (by omega)
           have ep : nN (nI p) = p := nN_nI (by omega)
           rw [ec2, ep] at q3
           exact simT h (by decide) (hm.2.2.1 ⟨c, hc2, rfl⟩ ⟨p, hp, rfl⟩ (by rw [ec2, ep]; exact fun z => q3 ((i_May h hc2 hp).mpr z))))
    · rcases hx with ⟨e, q⟩ | ⟨e, q⟩ | ⟨e, q⟩
      · first | exact absurd (ec.symm.trans e) (by decide) | exact simT h (by decide) (hm.1 (by rw [← i_K h]; exact q))
      · first | exact absurd (ec.symm.trans e) (by decide) | exact simT h (by decide) (hm.2.1 (by rw [← i_K h]; exact q.1) (by rw [← i_P h]; exact q.2))
      · first | exact absurd (ec.symm.trans e) (by decide) | (
           obtain ⟨q1, q2, q3⟩ := q
           rw [i_K h] at q1
           rw [i_P h] at q2
           obtain ⟨c, hc2, rfl⟩ := q1
           obtain ⟨p, hp, rfl⟩ := q2
           have ec2 : nN (nI c) = c := nN_nI (by omega)
           have ep : nN (nI p) = p := nN_nI (by omega)
           rw [ec2, ep] at q3
           exact simT h (by decide) (hm.2.2.1 ⟨c, hc2, rfl⟩ ⟨p, hp, rfl⟩ (by rw [ec2, ep]; exact fun z => q3 ((i_May h hc2 hp).mpr z))))
set_option maxHeartbeats 1000000 in
theorem sim_state {M C : zMS} (h : INV M C) {g : zG} {a : Nat → Nat} {o : Nat} {f0 : Nat → Int64} {x : Int32} {κ : Int32} {w1 : va_W} (hW : wPost g o f0 (fun r w' => r = nI (cSt C (nN x)) ∧ w' = wC g a C (4 * cM C) ∧ (rng x (cP C))) (fun E w' => w' = wC g a C (4 * cM C) ∧ (E = "java/lang/IndexOutOfBoundsException" ∧ ¬ (rng x (cP C)))) ["java/lang/IndexOutOfBoundsException"] κ w1) {r : Int32} {M' : zMS} (hm : (¬ rng x (mP M) → M' = up2 M 0 0 (nI 1)) ∧ (rng x (mP M) → r = M 12 (nN x) ∧ M' = up2 M 0 0 (nI 0))) : SimR g o (a 0) κ w1 r M' := by
  have bP := MI_b5 h.1
  rcases hW with ⟨rfl, ans, w2, rfl, hp⟩ | ⟨E, w2, i, hc, rfl, rfl, hx⟩
  · obtain ⟨rfl, rfl, g1⟩ := hp
    rw [i_P h] at g1
    obtain ⟨p, hp, rfl⟩ := g1
    simp only [nN_nI (show p < 2 ^ 31 by omega)] at *
    obtain ⟨hr, rfl⟩ := hm.2 ⟨p, hp, rfl⟩
    refine simN (INV_0 h) rfl ?_ rfl
    rw [hr]
    exact (i_St h hp).symm
  · obtain ⟨rfl, hx⟩ := hx
    rcases cat_1 hc with ⟨rfl, ec⟩
    · obtain ⟨e, q⟩ := hx
      exact simT h (by decide) (hm.1 (by rw [← i_P h]; exact q))
set_option maxHeartbeats 1000000 in
theorem sim_isTrue {M C : zMS} (h : INV M C) {g : zG} {a : Nat → Nat} {o : Nat} {f0 : Nat → Int64} {x : Int32} {κ : Int32} {w1 : va_W} (hW : wPost g o f0 (fun r w' => r = bI (cTB C (nN x)) ∧ w' = wC g a C (4 * cM C) ∧ (rng x (cP C))) (fun E w' => w' = wC g a C (4 * cM C) ∧ (E = "java/lang/IndexOutOfBoundsException" ∧ ¬ (rng x (cP C)))) ["java/lang/IndexOutOfBoundsException"] κ w1) {r : Int32} {M' : zMS} (hm : (¬ rng x (mP M) → M' = up2 M 0 0 (nI 1)) ∧ (rng x (mP M) → r = bI (pTB M (nN x)) ∧ M' = up2 M 0 0 (nI 0))) : SimR g o (a 0) κ w1 r M' := by
  have bP := MI_b5 h.1
  rcases hW with ⟨rfl, ans, w2, rfl, hp⟩ | ⟨E, w2, i, hc, rfl, rfl, hx⟩
  · obtain ⟨rfl, rfl, g1⟩ := hp
    rw [i_P h] at g1
    obtain ⟨p, hp, rfl⟩ := g1
    simp only [nN_nI (show p < 2 ^ 31 by omega)] at *
    obtain ⟨hr, rfl⟩ := hm.2 ⟨p, hp, rfl⟩
    refine simN (INV_0 h) rfl ?_ rfl
    rw [hr]
    exact bI_cg (i_TB h hp)
  · obtain ⟨rfl, hx⟩ := hx
    rcases cat_1 hc with ⟨rfl, ec⟩
    · obtain ⟨e, q⟩ := hx
      exact simT h (by decide) (hm.1 (by rw [← i_P h]; exact q))
set_option maxHeartbeats 1000000 in
theorem sim_text {M C : zMS} (h : INV M C) {g : zG} {a : Nat → Nat} {o : Nat} {f0 : Nat → Int64} {x : Int32} {κ : Int32} {w1 : va_W} (hW : wPost g o f0 (fun r w' => r = ifI (¬ C 17 (nN x) = 0) (C 8 (nN x)) (-1) ∧ w' = wC g a C (4 * cM C) ∧ (rng x (cP C))) (fun E w' => w' = wC g a C (4 * cM C) ∧ (E = "java/lang/IndexOutOfBoundsException" ∧ ¬ (rng x (cP C)))) ["java/lang/IndexOutOfBoundsException"] κ w1) {r : Int32} {M' : zMS} (hm : (¬ rng x (mP M) → M' = up2 M 0 0 (nI 1)) ∧ (rng x (mP M) → M 12 (nN x) = 0 → r = M 7 (nN x) ∧ M' = up2 M 0 0 (nI 0)) ∧ (rng x (mP M) → ¬ M 12 (nN x) = 0 → r = -1 ∧ M' = up2 M 0 0 (nI 0))) : SimR g o (a 0) κ w1 r M' := by
  have bP := MI_b5 h.1
  rcases hW with ⟨rfl, ans, w2, rfl, hp⟩ | ⟨E, w2, i, hc, rfl, rfl, hx⟩
  · obtain ⟨rfl, rfl, g1⟩ := hp
    rw [i_P h] at g1
    obtain ⟨p, hp, rfl⟩ := g1
    simp only [nN_nI (show p < 2 ^ 31 by omega)] at *
    by_cases k : M 12 p = 0
    · obtain ⟨hr, rfl⟩ := hm.2.1 ⟨p, hp, rfl⟩ k
      refine simN (INV_0 h) rfl ?_ rfl
      rw [hr, ifI_t ((i_St0 h hp).mpr k)]; exact (i_pg h hp).2.1
    · obtain ⟨hr, rfl⟩ := hm.2.2 ⟨p, hp, rfl⟩ k
      refine simN (INV_0 h) rfl ?_ rfl
      rw [hr, ifI_f (fun z => k ((i_St0 h hp).mp z))]
  · obtain ⟨rfl, hx⟩ := hx
    rcases cat_1 hc with ⟨rfl, ec⟩
    · obtain ⟨e, q⟩ := hx
      exact simT h (by decide) (hm.1 (by rw [← i_P h]; exact q))
set_option maxHeartbeats 1000000 in
theorem sim_mark {M C : zMS} (h : INV M C) {g : zG} {a : Nat → Nat} {o : Nat} {f0 : Nat → Int64} {x : Int32} {κ : Int32} {w1 : va_W} (hW : wPost g o f0 (fun r w' => r = C 9 (nN x) ∧ w' = wC g a C (4 * cM C) ∧ (rng x (cP C))) (fun E w' => w' = wC g a C (4 * cM C) ∧ (E = "java/lang/IndexOutOfBoundsException" ∧ ¬ (rng x (cP C)))) ["java/lang/IndexOutOfBoundsException"] κ w1) {r : Int32} {M' : zMS} (hm : (¬ rng x (mP M) → M' = up2 M 0 0 (nI 1)) ∧ (rng x (mP M) → r = mkP M (nN x) ∧ M' = up2 M 0 0 (nI 0))) : SimR g o (a 0) κ w1 r M' := by
  have bP := MI_b5 h.1
  rcases hW with ⟨rfl, ans, w2, rfl, hp⟩ | ⟨E, w2, i, hc, rfl, rfl, hx⟩
  · obtain ⟨rfl, rfl, g1⟩ := hp
    rw [i_P h] at g1
    obtain ⟨p, hp, rfl⟩ := g1
    simp only [nN_nI (show p < 2 ^ 31 by omega)] at *
    obtain ⟨hr, rfl⟩ := hm.2 ⟨p, hp, rfl⟩
    refine simN (INV_0 h) rfl ?_ rfl
    rw [hr]
    exact (i_pg h hp).2.2.2.2.2.1
  · obtain ⟨rfl, hx⟩ := hx
    rcases cat_1 hc with ⟨rfl, ec⟩
    · obtain ⟨e, q⟩ := hx
      exact simT h (by decide) (hm.1 (by rw [← i_P h]; exact q))
set_option maxHeartbeats 1000000 in
theorem sim_reversal {M C : zMS} (h : INV M C) {g : zG} {a : Nat → Nat} {o : Nat} {f0 : Nat → Int64} {x : Int32} {κ : Int32} {w1 : va_W} (hW : wPost g o f0 (fun r w' => r = C 12 (nN x) ∧ w' = wC g a C (4 * cM C) ∧ (rng x (cP C))) (fun E w' => w' = wC g a C (4 * cM C) ∧ (E = "java/lang/IndexOutOfBoundsException" ∧ ¬ (rng x (cP C)))) ["java/lang/IndexOutOfBoundsException"] κ w1) {r : Int32} {M' : zMS} (hm : (¬ rng x (mP M) → M' = up2 M 0 0 (nI 1)) ∧ (rng x (mP M) → r = M 13 (nN x) ∧ M' = up2 M 0 0 (nI 0))) : SimR g o (a 0) κ w1 r M' := by
  have bP := MI_b5 h.1
  rcases hW with ⟨rfl, ans, w2, rfl, hp⟩ | ⟨E, w2, i, hc, rfl, rfl, hx⟩
  · obtain ⟨rfl, rfl, g1⟩ := hp
    rw [i_P h] at g1
    obtain ⟨p, hp, rfl⟩ := g1
    simp only [nN_nI (show p < 2 ^ 31 by omega)] at *
    obtain ⟨hr, rfl⟩ := hm.2 ⟨p, hp, rfl⟩
    refine simN (INV_0 h) rfl ?_ rfl
    rw [hr]
    exact (i_pg h hp).2.2.2.1
  · obtain ⟨rfl, hx⟩ := hx
    rcases cat_1 hc with ⟨rfl, ec⟩
    · obtain ⟨e, q⟩ := hx
      exact simT h (by decide) (hm.1 (by rw [← i_P h]; exact q))
set_option maxHeartbeats 1000000 in
theorem sim_proves {M C : zMS} (h : INV M C) {g : zG} {a : Nat → Nat} {o : Nat} {f0 : Nat → Int64} {x y : Int32} {κ : Int32} {w1 : va_W} (hW : wPost g o f0 (fun r w' => r = bI (fMk (C 1) (C 2) (nMk (nMk (nI 1) (C 7 (nN x))) y) (cD C) = C 9 (nN x)) ∧ w' = wC g a C (4 * cM C) ∧ (rng x (cP C)) ∧ (rng y 10000)) (fun E w' => w' = wC g a C (4 * cM C) ∧ ((E = "java/lang/IndexOutOfBoundsException" ∧ ¬ (rng x (cP C))) ∨ (E = "java/lang/IllegalArgumentException" ∧ (rng x (cP C)) ∧ ¬ (rng y 10000)))) ["java/lang/IndexOutOfBoundsException", "java/lang/IllegalArgumentException"] κ w1) {r : Int32} {M' : zMS} (hm : (¬ rng x (mP M) → M' = up2 M 0 0 (nI 1)) ∧ (rng x (mP M) → ¬ rng y 10000 → M' = up2 M 0 0 (nI 2)) ∧ (rng x (mP M) → rng y 10000 → r = bI (mkD M (nN x) y = mkP M (nN x)) ∧ M' = up2 M 0 0 (nI 0))) : SimR g o (a 0) κ w1 r M' := by
  have bP := MI_b5 h.1
  rcases hW with ⟨rfl, ans, w2, rfl, hp⟩ | ⟨E, w2, i, hc, rfl, rfl, hx⟩
  · obtain ⟨rfl, rfl, g1, g2⟩ := hp
    rw [i_P h] at g1
    obtain ⟨p, hp, rfl⟩ := g1
    simp only [nN_nI (show p < 2 ^ 31 by omega)] at *
    obtain ⟨hr, rfl⟩ := hm.2.2 ⟨p, hp, rfl⟩ g2
    refine simN (INV_0 h) rfl ?_ rfl
    rw [hr]
    obtain ⟨p1, -, -, -, -, p6, -⟩ := i_pg h hp
    rw [p6, p1, i_D h]
    unfold mkD
    rw [fMk_cg (a2 := M 3) (b2 := M 4) (fun l hl => h.2.2.1.2.2.2.2.2.2 l hl)]
  · obtain ⟨rfl, hx⟩ := hx
    rcases cat_2 hc with ⟨rfl, ec⟩ | ⟨rfl, ec⟩
    · rcases hx with ⟨e, q⟩ | ⟨e, q⟩
      · first | exact absurd (ec.symm.trans e) (by decide) | exact simT h (by decide) (hm.1 (by rw [← i_P h]; exact q))
      · first | exact absurd (ec.symm.trans e) (by decide) | exact simT h (by decide) (hm.2.1 (by rw [← i_P h]; exact q.1) q.2)
    · rcases hx with ⟨e, q⟩ | ⟨e, q⟩
      · first | exact absurd (ec.symm.trans e) (by decide) | exact simT h (by decide) (hm.1 (by rw [← i_P h]; exact q))
      · first | exact absurd (ec.symm.trans e) (by decide) | exact simT h (by decide) (hm.2.1 (by rw [← i_P h]; exact q.1) q.2)
set_option maxHeartbeats 1000000 in
theorem sim_proven {M C : zMS} (h : INV M C) {g : zG} {a : Nat → Nat} {o : Nat} {f0 : Nat → Int64} {x y : Int32} {κ : Int32} {w1 : va_W} (hW : wPost g o f0 (fun r w' => r = ifI (¬ C 14 (nN x) = 0) (cSum C 16 (nN x) y) (nI 0) ∧ w' = wC g a C (4 * cM C) ∧ (rng x (cP C)) ∧ (rng y 8)) (fun E w' => w' = wC g a C (4 * cM C) ∧ ((E = "java/lang/IndexOutOfBoundsException" ∧ ¬ (rng x (cP C))) ∨ (E = "java/lang/IndexOutOfBoundsException" ∧ (rng x (cP C)) ∧ ¬ (rng y 8)))) ["java/lang/IndexOutOfBoundsException"] κ w1) {r : Int32} {M' : zMS} (hm : (¬ rng x (mP M) → M' = up2 M 0 0 (nI 1)) ∧ (rng x (mP M) → ¬ rng y 8 → M' = up2 M 0 0 (nI 1)) ∧ (rng x (mP M) → rng y 8 → M 12 (nN x) = nI 2 → r = sOf M (M 10) (nN x) y ∧ M' = up2 M 0 0 (nI 0)) ∧ (rng x (mP M) → rng y 8 → ¬ M 12 (nN x) = nI 2 → r = nI 0 ∧ M' = up2 M 0 0 (nI 0))) : SimR g o (a 0) κ w1 r M' := by
  have bP := MI_b5 h.1
  rcases hW with ⟨rfl, ans, w2, rfl, hp⟩ | ⟨E, w2, i, hc, rfl, rfl, hx⟩
  · obtain ⟨rfl, rfl, g1, g2⟩ := hp
    rw [i_P h] at g1
    obtain ⟨p, hp, rfl⟩ := g1
    simp only [nN_nI (show p < 2 ^ 31 by omega)] at *
    by_cases k : M 12 p = nI 2
    · obtain ⟨hr, rfl⟩ := hm.2.2.1 ⟨p, hp, rfl⟩ g2 k
      refine simN (INV_0 h) rfl ?_ rfl
      rw [hr, ifI_t ((i_St2 h hp).mpr k)]; exact i_Sum h hp
    · obtain ⟨hr, rfl⟩ := hm.2.2.2 ⟨p, hp, rfl⟩ g2 k
      refine simN (INV_0 h) rfl ?_ rfl
      rw [hr, ifI_f (fun z => k ((i_St2 h hp).mp z))]
  · obtain ⟨rfl, hx⟩ := hx
    rcases cat_1 hc with ⟨rfl, ec⟩
    · rcases hx with ⟨e, q⟩ | ⟨e, q⟩
      · first | exact absurd (ec.symm.trans e) (by decide) | exact simT h (by decide) (hm.1 (by rw [← i_P h]; exact q))
      · first | exact absurd (ec.symm.trans e) (by decide) | exact simT h (by decide) (hm.2.1 (by rw [← i_P h]; exact q.1) q.2)
