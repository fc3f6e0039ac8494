/-! the wrappers keep it -/
theorem negB : (-2000000001 : Int32) < 0 := by decide
theorem negA : (-2000000002 : Int32) < 0 := by decide
theorem negS : (-2000000003 : Int32) < 0 := by decide
theorem KVo_legs {C : zMS} (x : Int32) (y : Int32) (h : KV C) : KV (o_legs C x y).2 := by
  by_cases g0 : rng x 8
  · by_cases g1 : (-10000) ≤ y ∧ y ≤ nI (10000)
    · by_cases g2 : ¬ y = 0
      · by_cases g3 : cD C < 4
        · rw [o_legs_ok g0 g1 g2 g3]
          exact K_legs h g0 g1 g3
        · rw [o_legs_3 g0 g1 g2 g3]
          exact h
      · rw [o_legs_2 g0 g1 g2]
        exact h
    · rw [o_legs_1 g0 g1]
      exact h
  · rw [o_legs_0 g0]
    exact h
theorem Mo_legs {C : zMS} (x : Int32) (y : Int32) : (o_legs C x y).2 20 = C 20 ∧ (o_legs C x y).2 22 = C 22 := by
  by_cases g0 : rng x 8
  · by_cases g1 : (-10000) ≤ y ∧ y ≤ nI (10000)
    · by_cases g2 : ¬ y = 0
      · by_cases g3 : cD C < 4
        · rw [o_legs_ok g0 g1 g2 g3]
          refine ⟨?_, ?_⟩
          · show (up2 (up2 (up2 C 1 (cD C) x) 2 (cD C) y) 3 0 (nI (cD C + 1))) 20 = _; rw [up2_k (by decide), up2_k (by decide), up2_k (by decide)]
          · show (up2 (up2 (up2 C 1 (cD C) x) 2 (cD C) y) 3 0 (nI (cD C + 1))) 22 = _; rw [up2_k (by decide), up2_k (by decide), up2_k (by decide)]
        · rw [o_legs_3 g0 g1 g2 g3]
          exact ⟨rfl, rfl⟩
      · rw [o_legs_2 g0 g1 g2]
        exact ⟨rfl, rfl⟩
    · rw [o_legs_1 g0 g1]
      exact ⟨rfl, rfl⟩
  · rw [o_legs_0 g0]
    exact ⟨rfl, rfl⟩
theorem KVo_writes {C : zMS} (x : Int32) (h : KV C) : KV (o_writes C x).2 := by
  by_cases g0 : rng x 10000
  · by_cases g1 : (2 ≤ cD C ∧ zsum (C 2) (cD C) = 0) ∧ cP C < 80
    · rw [o_writes_ok g0 g1]
      exact K_writes h g0 g1
    · rw [o_writes_1 g0 g1]
      exact h
  · rw [o_writes_0 g0]
    exact h
theorem Mo_writes {C : zMS} (x : Int32) : (o_writes C x).2 20 = C 20 ∧ (o_writes C x).2 22 = C 22 := by
  by_cases g0 : rng x 10000
  · by_cases g1 : (2 ≤ cD C ∧ zsum (C 2) (cD C) = 0) ∧ cP C < 80
    · rw [o_writes_ok g0 g1]
      refine ⟨?_, ?_⟩
      · show (up2 (apC C (cP C) 1 2 (cD C) x (nI (cT C))) 3 0 (nI 0)) 20 = _; rw [up2_k (by decide), apC_k (by decide)]
      · show (up2 (apC C (cP C) 1 2 (cD C) x (nI (cT C))) 3 0 (nI 0)) 22 = _; rw [up2_k (by decide), apC_k (by decide)]
    · rw [o_writes_1 g0 g1]
      exact ⟨rfl, rfl⟩
  · rw [o_writes_0 g0]
    exact ⟨rfl, rfl⟩
theorem KVo_reverses {C : zMS} (x : Int32) (h : KV C) : KV (o_reverses C x).2 := by
  by_cases g0 : rng x (cP C)
  · by_cases g1 : (cTB C (nN x) ∧ ¬ 0 ≤ C 12 (nN x) ∧ C 13 (nN x) = 0) ∧ cP C < 80
    · rw [o_reverses_ok g0 g1]
      have b19 := CI_b19 (KV_I h)
      obtain ⟨i, hi, rfl⟩ := g0
      have ei : nN (nI i) = i := nN_nI (by omega)
      rw [ei] at g1 ⊢
      exact K_reverses h hi g1
    · rw [o_reverses_1 g0 g1]
      exact h
  · rw [o_reverses_0 g0]
    exact h
theorem Mo_reverses {C : zMS} (x : Int32) : (o_reverses C x).2 20 = C 20 ∧ (o_reverses C x).2 22 = C 22 := by
  by_cases g0 : rng x (cP C)
  · by_cases g1 : (cTB C (nN x) ∧ ¬ 0 ≤ C 12 (nN x) ∧ C 13 (nN x) = 0) ∧ cP C < 80
    · rw [o_reverses_ok g0 g1]
      refine ⟨?_, ?_⟩
      · show (rvC C (nN x) (nI (cT C))) 20 = _; unfold rvC; rw [up2_k (by decide), up2_k (by decide), apC_k (by decide), opL_k _ _ (by decide)]
      · show (rvC C (nN x) (nI (cT C))) 22 = _; unfold rvC; rw [up2_k (by decide), up2_k (by decide), apC_k (by decide), opL_k _ _ (by decide)]
    · rw [o_reverses_1 g0 g1]
      exact ⟨rfl, rfl⟩
  · rw [o_reverses_0 g0]
    exact ⟨rfl, rfl⟩
theorem KVo_passes {C : zMS} (x : Int32) (h : KV C) : KV (o_passes C x).2 := by
  by_cases g0 : ¬ x < nI 1 ∧ x ≤ nI 100
  · by_cases g1 : nI (cT C) + x ≤ nI 400
    · rw [o_passes_ok g0 g1]
      exact K_passes h g0 g1
    · rw [o_passes_1 g0 g1]
      exact h
  · rw [o_passes_0 g0]
    exact h
theorem Mo_passes {C : zMS} (x : Int32) : (o_passes C x).2 20 = C 20 ∧ (o_passes C x).2 22 = C 22 := by
  by_cases g0 : ¬ x < nI 1 ∧ x ≤ nI 100
  · by_cases g1 : nI (cT C) + x ≤ nI 400
    · rw [o_passes_ok g0 g1]
      refine ⟨?_, ?_⟩
      · show (up2 C 0 0 (nI (cT C) + x)) 20 = _; rw [up2_k (by decide)]
      · show (up2 C 0 0 (nI (cT C) + x)) 22 = _; rw [up2_k (by decide)]
    · rw [o_passes_1 g0 g1]
      exact ⟨rfl, rfl⟩
  · rw [o_passes_0 g0]
    exact ⟨rfl, rfl⟩
theorem KVo_burns {C : zMS} (x : Int32) (y : Int32) (h : KV C) : KV (o_burns C x y).2 := by
  by_cases g0 : rng x (cP C)
  · by_cases g1 : rng y (cP C)
    · by_cases g2 : ¬ nN y < nN x
      · rw [o_burns_ok g0 g1 g2]
        have b19 := CI_b19 (KV_I h)
        obtain ⟨i, hi, rfl⟩ := g0
        have ei : nN (nI i) = i := nN_nI (by omega)
        obtain ⟨j, hj, rfl⟩ := g1
        have ej : nN (nI j) = j := nN_nI (by omega)
        rw [ei, ej] at g2 ⊢
        exact K_burns h (by omega)
      · rw [o_burns_2 g0 g1 g2]
        exact h
    · rw [o_burns_1 g0 g1]
      exact h
  · rw [o_burns_0 g0]
    exact h
theorem Mo_burns {C : zMS} (x : Int32) (y : Int32) : (o_burns C x y).2 20 = C 20 ∧ (o_burns C x y).2 22 = C 22 := by
  by_cases g0 : rng x (cP C)
  · by_cases g1 : rng y (cP C)
    · by_cases g2 : ¬ nN y < nN x
      · rw [o_burns_ok g0 g1 g2]
        refine ⟨?_, ?_⟩
        · show (brN C (nN x) (nN y + 1 - nN x)) 20 = _; rw [brN_k _ _ (by decide)]
        · show (brN C (nN x) (nN y + 1 - nN x)) 22 = _; rw [brN_k _ _ (by decide)]
      · rw [o_burns_2 g0 g1 g2]
        exact ⟨rfl, rfl⟩
    · rw [o_burns_1 g0 g1]
      exact ⟨rfl, rfl⟩
  · rw [o_burns_0 g0]
    exact ⟨rfl, rfl⟩
theorem KVo_alters {C : zMS} (x : Int32) (y : Int32) (z : Int32) (h : KV C) : KV (o_alters C x y z).2 := by
  by_cases g0 : rng x (cP C)
  · by_cases g1 : rng y 4
    · by_cases g2 : (-10000) ≤ z ∧ z ≤ nI (10000)
      · by_cases g3 : ¬ C 17 (nN x) = 0 ∧ nN y < cL C (nN x)
        · rw [o_alters_ok g0 g1 g2 g3]
          have b19 := CI_b19 (KV_I h)
          obtain ⟨i, hi, rfl⟩ := g0
          have ei : nN (nI i) = i := nN_nI (by omega)
          rw [ei] at g3 ⊢
          exact K_alters h hi g3
        · rw [o_alters_3 g0 g1 g2 g3]
          exact h
      · rw [o_alters_2 g0 g1 g2]
        exact h
    · rw [o_alters_1 g0 g1]
      exact h
  · rw [o_alters_0 g0]
    exact h
theorem Mo_alters {C : zMS} (x : Int32) (y : Int32) (z : Int32) : (o_alters C x y z).2 20 = C 20 ∧ (o_alters C x y z).2 22 = C 22 := by
  by_cases g0 : rng x (cP C)
  · by_cases g1 : rng y 4
    · by_cases g2 : (-10000) ≤ z ∧ z ≤ nI (10000)
      · by_cases g3 : ¬ C 17 (nN x) = 0 ∧ nN y < cL C (nN x)
        · rw [o_alters_ok g0 g1 g2 g3]
          refine ⟨?_, ?_⟩
          · show (up2 C 18 (nN x * 4 + nN y) z) 20 = _; rw [up2_k (by decide)]
          · show (up2 C 18 (nN x * 4 + nN y) z) 22 = _; rw [up2_k (by decide)]
        · rw [o_alters_3 g0 g1 g2 g3]
          exact ⟨rfl, rfl⟩
      · rw [o_alters_2 g0 g1 g2]
        exact ⟨rfl, rfl⟩
    · rw [o_alters_1 g0 g1]
      exact ⟨rfl, rfl⟩
  · rw [o_alters_0 g0]
    exact ⟨rfl, rfl⟩
theorem KVo_copies {C : zMS} (h : KV C) : KV (o_copies C).2 := by
  by_cases g0 : cM C < 16 ∧ zcnt (fun p => cSt C p = 1) (cP C) = 0
  · rw [o_copies_ok g0]
    exact K_copies0 h g0
  · rw [o_copies_0 g0]
    exact h
theorem Mo_copies {C : zMS} : (0 ≤ (o_copies C).1 ∧ cM (o_copies C).2 = cM C + 1 ∧ (o_copies C).2 22 = C 22) ∨ ((o_copies C).1 < 0 ∧ (o_copies C).2 = C) := by
  by_cases g0 : cM C < 16 ∧ zcnt (fun p => cSt C p = 1) (cP C) = 0
  · rw [o_copies_ok g0]
    exact Or.inl ⟨nI_pos' (by omega), mkC_M g0.1, mkC_k (fl := 22) (by omega)⟩
  · rw [o_copies_0 g0]
    exact Or.inr ⟨negS, rfl⟩
theorem KVo_copiesFrom {C : zMS} (x : Int32) (h : KV C) : KV (o_copiesFrom C x).2 := by
  by_cases g0 : cCx C x
  · by_cases g1 : cM C < 16 ∧ zcnt (fun p => cSt C p = 1) (cP C) = 0
    · rw [o_copiesFrom_ok g0 g1]
      have b20 := CI_b20 (KV_I h)
      obtain ⟨i, rfl, hi, h1⟩ := g0
      have ei : nN (nI i) = i := nN_nI (by omega)
      rw [ei]
      exact K_copiesK h hi h1 g1
    · rw [o_copiesFrom_1 g0 g1]
      exact h
  · rw [o_copiesFrom_0 g0]
    exact h
theorem Mo_copiesFrom {C : zMS} (x : Int32) : (0 ≤ (o_copiesFrom C x).1 ∧ cM (o_copiesFrom C x).2 = cM C + 1 ∧ (o_copiesFrom C x).2 22 = C 22) ∨ ((o_copiesFrom C x).1 < 0 ∧ (o_copiesFrom C x).2 = C) := by
  by_cases g0 : cCx C x
  · by_cases g1 : cM C < 16 ∧ zcnt (fun p => cSt C p = 1) (cP C) = 0
    · rw [o_copiesFrom_ok g0 g1]
      exact Or.inl ⟨nI_pos' (by omega), mkC_M g1.1, mkC_k (fl := 22) (by omega)⟩
    · rw [o_copiesFrom_1 g0 g1]
      exact Or.inr ⟨negS, rfl⟩
  · rw [o_copiesFrom_0 g0]
    exact Or.inr ⟨negB, rfl⟩
theorem KVo_carries0 {C : zMS} (x : Int32) (h : KV C) : KV (o_carries0 C x).2 := by
  by_cases g0 : cCx C x
  · rw [o_carries0_ok g0]
    exact K_carry0 h
  · rw [o_carries0_0 g0]
    exact h
theorem Mo_carries0 {C : zMS} (x : Int32) : (o_carries0 C x).2 20 = C 20 ∧ (o_carries0 C x).2 22 = C 22 := by
  by_cases g0 : cCx C x
  · rw [o_carries0_ok g0]
    refine ⟨?_, ?_⟩
    · show (up2 C (43 + 8 * nN x) 0 (nI 0)) 20 = _; rw [up2_k (by omega)]
    · show (up2 C (43 + 8 * nN x) 0 (nI 0)) 22 = _; rw [up2_k (by omega)]
  · rw [o_carries0_0 g0]
    exact ⟨rfl, rfl⟩
theorem KVo_carries1 {C : zMS} (x : Int32) (h : KV C) : KV (o_carries1 C x).2 := by
  by_cases g0 : cCx C x
  · rw [o_carries1_ok g0]
    have b20 := CI_b20 (KV_I h)
    obtain ⟨i, rfl, hi, h1⟩ := g0
    have ei : nN (nI i) = i := nN_nI (by omega)
    rw [ei]
    exact K_carry1 h hi h1
  · rw [o_carries1_0 g0]
    exact h
theorem Mo_carries1 {C : zMS} (x : Int32) : (o_carries1 C x).2 20 = C 20 ∧ (o_carries1 C x).2 22 = C 22 := by
  by_cases g0 : cCx C x
  · rw [o_carries1_ok g0]
    refine ⟨?_, ?_⟩
    · show (bkN (cvC C (nN x)) (nN x) (cE (cvC C (nN x)) (nN x) - cF (cvC C (nN x)) (nN x))) 20 = _; unfold cvC; rw [bkN_k _ _ (by omega), up2_k (by omega)]
    · show (bkN (cvC C (nN x)) (nN x) (cE (cvC C (nN x)) (nN x) - cF (cvC C (nN x)) (nN x))) 22 = _; unfold cvC; rw [bkN_k _ _ (by omega), up2_k (by omega)]
  · rw [o_carries1_0 g0]
    exact ⟨rfl, rfl⟩
theorem KVo_rots {C : zMS} (x : Int32) (y : Int32) (h : KV C) : KV (o_rots C x y).2 := by
  by_cases g0 : cCx C x
  · by_cases g1 : cIn C (nN x) y
    · rw [o_rots_ok g0 g1]
      have b20 := CI_b20 (KV_I h)
      obtain ⟨i, rfl, hi, h1⟩ := g0
      have ei : nN (nI i) = i := nN_nI (by omega)
      obtain ⟨j, rfl, hj1, hj2⟩ := g1
      have b42 := CI_b42 (KV_I h) (nN (nI i))
      have ej : nN (nI j) = j := nN_nI (by omega)
      rw [ei, ej]
      exact K_rots h (by omega)
    · rw [o_rots_1 g0 g1]
      exact h
  · rw [o_rots_0 g0]
    exact h
theorem Mo_rots {C : zMS} (x : Int32) (y : Int32) : (o_rots C x y).2 20 = C 20 ∧ (o_rots C x y).2 22 = C 22 := by
  by_cases g0 : cCx C x
  · by_cases g1 : cIn C (nN x) y
    · rw [o_rots_ok g0 g1]
      refine ⟨?_, ?_⟩
      · show (blC C (44 + 8 * nN x) (45 + 8 * nN x) (nN y)) 20 = _; rw [blC_k (by omega)]
      · show (blC C (44 + 8 * nN x) (45 + 8 * nN x) (nN y)) 22 = _; rw [blC_k (by omega)]
    · rw [o_rots_1 g0 g1]
      exact ⟨rfl, rfl⟩
  · rw [o_rots_0 g0]
    exact ⟨rfl, rfl⟩
theorem KVo_throwsAway {C : zMS} (x : Int32) (h : KV C) : KV (o_throwsAway C x).2 := by
  by_cases g0 : cCx C x
  · by_cases g1 : ¬ cIsB C (nN x) ∧ ¬ cAny C (nN x)
    · rw [o_throwsAway_ok g0 g1]
      have b20 := CI_b20 (KV_I h)
      obtain ⟨i, rfl, hi, h1⟩ := g0
      have ei : nN (nI i) = i := nN_nI (by omega)
      rw [ei] at g1 ⊢
      exact K_throws h hi h1 g1.1
    · rw [o_throwsAway_1 g0 g1]
      exact h
  · rw [o_throwsAway_0 g0]
    exact h
theorem Mo_throwsAway {C : zMS} (x : Int32) : (o_throwsAway C x).2 20 = C 20 ∧ (o_throwsAway C x).2 22 = C 22 := by
  by_cases g0 : cCx C x
  · by_cases g1 : ¬ cIsB C (nN x) ∧ ¬ cAny C (nN x)
    · rw [o_throwsAway_ok g0 g1]
      refine ⟨?_, ?_⟩
      · show (up2 C 28 (nN x) (nI 0)) 20 = _; rw [up2_k (by decide)]
      · show (up2 C 28 (nN x) (nI 0)) 22 = _; rw [up2_k (by decide)]
    · rw [o_throwsAway_1 g0 g1]
      exact ⟨rfl, rfl⟩
  · rw [o_throwsAway_0 g0]
    exact ⟨rfl, rfl⟩
theorem KVo_restores {C : zMS} (x : Int32) (h : KV C) : KV (o_restores C x).2 := by
  by_cases g0 : cCx C x
  · by_cases g1 : cWh C (nN x)
    · rw [o_restores_ok g0 g1]
      have b20 := CI_b20 (KV_I h)
      obtain ⟨i, rfl, hi, h1⟩ := g0
      have ei : nN (nI i) = i := nN_nI (by omega)
      rw [ei]
      exact K_restores h hi h1
    · rw [o_restores_1 g0 g1]
      exact h
  · rw [o_restores_0 g0]
    exact h
theorem Mo_restores {C : zMS} (x : Int32) : (o_restores C x).2 20 = C 20 ∧ (o_restores C x).2 22 = C 22 := by
  by_cases g0 : cCx C x
  · by_cases g1 : cWh C (nN x)
    · rw [o_restores_ok g0 g1]
      refine ⟨?_, ?_⟩
      · show (gbA (chN (cBs C) (nN x)) C) 20 = _; rw [gbA_k (by decide)]
      · show (gbA (chN (cBs C) (nN x)) C) 22 = _; rw [gbA_k (by decide)]
    · rw [o_restores_1 g0 g1]
      exact ⟨rfl, rfl⟩
  · rw [o_restores_0 g0]
    exact ⟨rfl, rfl⟩
theorem KVo_opens {C : zMS} (h : KV C) : KV (o_opens C).2 := by
  by_cases g0 : cK C < 8
  · rw [o_opens_ok g0]
    exact K_opens h g0
  · rw [o_opens_0 g0]
    exact h
theorem Mo_opens {C : zMS} : (0 ≤ (o_opens C).1 ∧ cK (o_opens C).2 = cK C + 1 ∧ (o_opens C).2 20 = C 20) ∨ ((o_opens C).1 < 0 ∧ (o_opens C).2 = C) := by
  by_cases g0 : cK C < 8
  · rw [o_opens_ok g0]
    refine Or.inl ⟨nI_pos' (by omega), ?_, ?_⟩
    · show nN (up2 (up2 C 21 (cK C) (nI 1)) 22 0 (nI (cK C + 1)) 22 0) = _; rw [up2_s, nN_nI (by omega)]
    · show up2 (up2 C 21 (cK C) (nI 1)) 22 0 (nI (cK C + 1)) 20 = _; rw [up2_k (by decide), up2_k (by decide)]
  · rw [o_opens_0 g0]
    exact Or.inr ⟨negS, rfl⟩
theorem KVo_closes {C : zMS} (x : Int32) (h : KV C) : KV (o_closes C x).2 := by
  by_cases g0 : rng x (cK C)
  · by_cases g1 : ¬ C 21 (nN x) = 0
    · rw [o_closes_ok g0 g1]
      exact K_closes h
    · rw [o_closes_1 g0 g1]
      exact h
  · rw [o_closes_0 g0]
    exact h
theorem Mo_closes {C : zMS} (x : Int32) : (o_closes C x).2 20 = C 20 ∧ (o_closes C x).2 22 = C 22 := by
  by_cases g0 : rng x (cK C)
  · by_cases g1 : ¬ C 21 (nN x) = 0
    · rw [o_closes_ok g0 g1]
      refine ⟨?_, ?_⟩
      · show (up2 C 21 (nN x) (nI 0)) 20 = _; rw [up2_k (by decide)]
      · show (up2 C 21 (nN x) (nI 0)) 22 = _; rw [up2_k (by decide)]
    · rw [o_closes_1 g0 g1]
      exact ⟨rfl, rfl⟩
  · rw [o_closes_0 g0]
    exact ⟨rfl, rfl⟩
theorem KVo_holds {C : zMS} (x : Int32) (y : Int32) (f : Int32) (t : Int32) (h : KV C) : KV (o_holds C x y f t).2 := by
  by_cases g0 : rng x (cK C)
  · by_cases g1 : rng y 8
    · by_cases g2 : ¬ f < 0 ∧ f ≤ t ∧ t ≤ nI 400
      · by_cases g3 : ¬ C 21 (nN x) = 0 ∧ cH C < 30
        · rw [o_holds_ok g0 g1 g2 g3]
          have b22 := CI_b22 (KV_I h)
          obtain ⟨i, hi, rfl⟩ := g0
          have ei : nN (nI i) = i := nN_nI (by omega)
          exact K_holds h hi g3.2
        · rw [o_holds_3 g0 g1 g2 g3]
          exact h
      · rw [o_holds_2 g0 g1 g2]
        exact h
    · rw [o_holds_1 g0 g1]
      exact h
  · rw [o_holds_0 g0]
    exact h
theorem Mo_holds {C : zMS} (x : Int32) (y : Int32) (f : Int32) (t : Int32) : (o_holds C x y f t).2 20 = C 20 ∧ (o_holds C x y f t).2 22 = C 22 := by
  by_cases g0 : rng x (cK C)
  · by_cases g1 : rng y 8
    · by_cases g2 : ¬ f < 0 ∧ f ≤ t ∧ t ≤ nI 400
      · by_cases g3 : ¬ C 21 (nN x) = 0 ∧ cH C < 30
        · rw [o_holds_ok g0 g1 g2 g3]
          refine ⟨?_, ?_⟩
          · show (up2 (up2 (up2 (up2 (up2 C 23 (cH C) x) 24 (cH C) y) 25 (cH C) f) 26 (cH C) t) 27 0 (nI (cH C + 1))) 20 = _; rw [up2_k (by decide), up2_k (by decide), up2_k (by decide), up2_k (by decide), up2_k (by decide)]
          · show (up2 (up2 (up2 (up2 (up2 C 23 (cH C) x) 24 (cH C) y) 25 (cH C) f) 26 (cH C) t) 27 0 (nI (cH C + 1))) 22 = _; rw [up2_k (by decide), up2_k (by decide), up2_k (by decide), up2_k (by decide), up2_k (by decide)]
        · rw [o_holds_3 g0 g1 g2 g3]
          exact ⟨rfl, rfl⟩
      · rw [o_holds_2 g0 g1 g2]
        exact ⟨rfl, rfl⟩
    · rw [o_holds_1 g0 g1]
      exact ⟨rfl, rfl⟩
  · rw [o_holds_0 g0]
    exact ⟨rfl, rfl⟩
theorem KVo_strikes {C : zMS} (x : Int32) (y : Int32) (h : KV C) : KV (o_strikes C x y).2 := by
  by_cases g0 : rng x (cK C)
  · by_cases g1 : rng y (cP C)
    · by_cases g2 : cMay C (nN x) (nN y)
      · rw [o_strikes_ok g0 g1 g2]
        have b19 := CI_b19 (KV_I h)
        obtain ⟨j, hj, rfl⟩ := g1
        have ej : nN (nI j) = j := nN_nI (by omega)
        rw [ej]
        exact K_strikes h hj
      · rw [o_strikes_2 g0 g1 g2]
        exact h
    · rw [o_strikes_1 g0 g1]
      exact h
  · rw [o_strikes_0 g0]
    exact h
theorem Mo_strikes {C : zMS} (x : Int32) (y : Int32) : (o_strikes C x y).2 20 = C 20 ∧ (o_strikes C x y).2 22 = C 22 := by
  by_cases g0 : rng x (cK C)
  · by_cases g1 : rng y (cP C)
    · by_cases g2 : cMay C (nN x) (nN y)
      · rw [o_strikes_ok g0 g1 g2]
        refine ⟨?_, ?_⟩
        · show (bvN (stC C (nN y)) (nN y) (cM (stC C (nN y)))) 20 = _; unfold stC; rw [bvN_k _ _ (by omega), blC_k (by decide), up2_k (by decide)]
        · show (bvN (stC C (nN y)) (nN y) (cM (stC C (nN y)))) 22 = _; unfold stC; rw [bvN_k _ _ (by omega), blC_k (by decide), up2_k (by decide)]
      · rw [o_strikes_2 g0 g1 g2]
        exact ⟨rfl, rfl⟩
    · rw [o_strikes_1 g0 g1]
      exact ⟨rfl, rfl⟩
  · rw [o_strikes_0 g0]
    exact ⟨rfl, rfl⟩
