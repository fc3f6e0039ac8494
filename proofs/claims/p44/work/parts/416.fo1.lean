/-! the wrappers' contracts, as functions -/
theorem fo_legs (l : Launch) (D : va_G) (g : zG) (a : Nat → Nat) (C : zMS) (hst : l.stackTraces = false) (hI : CI C) (x : Int32) (y : Int32) : zWrp l yL_legs wsL_legs { frames := 8, cells := 3, slots := 18, locals := 124 } D (zT g) (wC g a C (4 * cM C)) [.ref (a 0), .int x, .int y] (pPost g a (o_legs C x y)) 3 18 := by
  refine wr_legs l D g (a 0) (wC g a C (4 * cM C)) _ rfl x y _ _ (pPost g a (o_legs C x y)) ?_ ?_ ?_ (cc_X6_leg l D g a C (4 * cM C) hst hI x y).L
  · rintro r w' ⟨rfl, rfl, g0, g1, g2, g3⟩
    exact ⟨by rw [o_legs_ok g0 g1 g2 g3], by rw [o_legs_ok g0 g1 g2 g3]; show wC g a (up2 (up2 (up2 C 1 (cD C) x) 2 (cD C) y) 3 0 (nI (cD C + 1))) (4 * cM C) = wC g a (up2 (up2 (up2 C 1 (cD C) x) 2 (cD C) y) 3 0 (nI (cD C + 1))) (4 * cM (up2 (up2 (up2 C 1 (cD C) x) 2 (cD C) y) 3 0 (nI (cD C + 1)))); rw [show cM (up2 (up2 (up2 C 1 (cD C) x) 2 (cD C) y) 3 0 (nI (cD C + 1))) = cM C from by unfold cM; rw [up2_k (by decide), up2_k (by decide), up2_k (by decide)]]⟩
  · rintro E w' ⟨rfl, (⟨rfl, n0⟩ | ⟨rfl, g0, n1⟩ | ⟨rfl, g0, g1, n2⟩ | ⟨rfl, g0, g1, g2, n3⟩)⟩
    · exact ⟨by rw [xcd_B, o_legs_0 n0], by rw [o_legs_0 n0]⟩
    · exact ⟨by rw [xcd_A, o_legs_1 g0 n1], by rw [o_legs_1 g0 n1]⟩
    · exact ⟨by rw [xcd_A, o_legs_2 g0 g1 n2], by rw [o_legs_2 g0 g1 n2]⟩
    · exact ⟨by rw [xcd_S, o_legs_3 g0 g1 g2 n3], by rw [o_legs_3 g0 g1 g2 n3]⟩
  · rintro E w' ⟨_, ⟨rfl, _⟩ | ⟨rfl, _⟩ | ⟨rfl, _⟩ | ⟨rfl, _⟩⟩
    · exact (Or.inl rfl)
    · exact (Or.inr (Or.inl rfl))
    · exact (Or.inr (Or.inl rfl))
    · exact (Or.inr (Or.inr rfl))
theorem fo_writes (l : Launch) (D : va_G) (g : zG) (a : Nat → Nat) (C : zMS) (hst : l.stackTraces = false) (hI : CI C) (x : Int32) : zWrp l yL_writes wsL_writes { frames := 8, cells := 2, slots := 12, locals := 124 } D (zT g) (wC g a C (4 * cM C)) [.ref (a 0), .int x] (pPost g a (o_writes C x)) 2 12 := by
  refine wr_writes l D g (a 0) (wC g a C (4 * cM C)) _ rfl x _ _ (pPost g a (o_writes C x)) ?_ ?_ ?_ (cc_X6_write l D g a C (4 * cM C) hst hI x).L
  · rintro r w' ⟨rfl, rfl, g0, g1⟩
    exact ⟨by rw [o_writes_ok g0 g1], by rw [o_writes_ok g0 g1]; show wC g a (up2 (apC C (cP C) 1 2 (cD C) x (nI (cT C))) 3 0 (nI 0)) (4 * cM C) = wC g a (up2 (apC C (cP C) 1 2 (cD C) x (nI (cT C))) 3 0 (nI 0)) (4 * cM (up2 (apC C (cP C) 1 2 (cD C) x (nI (cT C))) 3 0 (nI 0))); rw [show cM (up2 (apC C (cP C) 1 2 (cD C) x (nI (cT C))) 3 0 (nI 0)) = cM C from by unfold cM; rw [up2_k (by decide), apC_k (by decide)]]⟩
  · rintro E w' ⟨rfl, (⟨rfl, n0⟩ | ⟨rfl, g0, n1⟩)⟩
    · exact ⟨by rw [xcd_A, o_writes_0 n0], by rw [o_writes_0 n0]⟩
    · exact ⟨by rw [xcd_S, o_writes_1 g0 n1], by rw [o_writes_1 g0 n1]⟩
  · rintro E w' ⟨_, ⟨rfl, _⟩ | ⟨rfl, _⟩⟩
    · exact (Or.inl rfl)
    · exact (Or.inr rfl)
theorem fo_reverses (l : Launch) (D : va_G) (g : zG) (a : Nat → Nat) (C : zMS) (hst : l.stackTraces = false) (hI : CI C) (x : Int32) : zWrp l yL_reverses wsL_reverses { frames := 8, cells := 2, slots := 12, locals := 124 } D (zT g) (wC g a C (4 * cM C)) [.ref (a 0), .int x] (pPost g a (o_reverses C x)) 2 12 := by
  refine wr_reverses l D g (a 0) (wC g a C (4 * cM C)) _ rfl x _ _ (pPost g a (o_reverses C x)) ?_ ?_ ?_ (cc_X6_reverse l D g a C (4 * cM C) hst hI x).L
  · rintro r w' ⟨rfl, rfl, g0, g1⟩
    exact ⟨by rw [o_reverses_ok g0 g1], by rw [o_reverses_ok g0 g1]; show wC g a (rvC C (nN x) (nI (cT C))) (4 * cM C) = wC g a (rvC C (nN x) (nI (cT C))) (4 * cM (rvC C (nN x) (nI (cT C)))); rw [show cM (rvC C (nN x) (nI (cT C))) = cM C from by unfold cM rvC; rw [up2_k (by decide), up2_k (by decide), apC_k (by decide), opL_k _ _ (by decide)]]⟩
  · rintro E w' ⟨rfl, (⟨rfl, n0⟩ | ⟨rfl, g0, n1⟩)⟩
    · exact ⟨by rw [xcd_B, o_reverses_0 n0], by rw [o_reverses_0 n0]⟩
    · exact ⟨by rw [xcd_S, o_reverses_1 g0 n1], by rw [o_reverses_1 g0 n1]⟩
  · rintro E w' ⟨_, ⟨rfl, _⟩ | ⟨rfl, _⟩⟩
    · exact (Or.inl rfl)
    · exact (Or.inr rfl)
theorem fo_passes (l : Launch) (D : va_G) (g : zG) (a : Nat → Nat) (C : zMS) (hst : l.stackTraces = false) (hI : CI C) (x : Int32) : zWrp l yL_passes wsL_passes { frames := 7, cells := 1, slots := 6, locals := 103 } D (zT g) (wC g a C (4 * cM C)) [.ref (a 0), .int x] (pPost g a (o_passes C x)) 1 6 := by
  refine wr_passes l D g (a 0) (wC g a C (4 * cM C)) _ rfl x _ _ (pPost g a (o_passes C x)) ?_ ?_ ?_ (cc_X6_pass l D g a C (4 * cM C) hst hI x).L
  · rintro r w' ⟨rfl, rfl, g0, g1⟩
    exact ⟨by rw [o_passes_ok g0 g1], by rw [o_passes_ok g0 g1]; show wC g a (up2 C 0 0 (nI (cT C) + x)) (4 * cM C) = wC g a (up2 C 0 0 (nI (cT C) + x)) (4 * cM (up2 C 0 0 (nI (cT C) + x))); rw [show cM (up2 C 0 0 (nI (cT C) + x)) = cM C from by unfold cM; rw [up2_k (by decide)]]⟩
  · rintro E w' ⟨rfl, (⟨rfl, n0⟩ | ⟨rfl, g0, n1⟩)⟩
    · exact ⟨by rw [xcd_A, o_passes_0 n0], by rw [o_passes_0 n0]⟩
    · exact ⟨by rw [xcd_S, o_passes_1 g0 n1], by rw [o_passes_1 g0 n1]⟩
  · rintro E w' ⟨_, ⟨rfl, _⟩ | ⟨rfl, _⟩⟩
    · exact (Or.inl rfl)
    · exact (Or.inr rfl)
theorem fo_burns (l : Launch) (D : va_G) (g : zG) (a : Nat → Nat) (C : zMS) (hst : l.stackTraces = false) (hI : CI C) (x : Int32) (y : Int32) : zWrp l yL_burns wsL_burns { frames := 8, cells := 3, slots := 18, locals := 127 } D (zT g) (wC g a C (4 * cM C)) [.ref (a 0), .int x, .int y] (pPost g a (o_burns C x y)) 3 18 := by
  refine wr_burns l D g (a 0) (wC g a C (4 * cM C)) _ rfl x y _ _ (pPost g a (o_burns C x y)) ?_ ?_ ?_ (cc_X6_burn l D g a C (4 * cM C) hst hI x y).L
  · rintro r w' ⟨rfl, rfl, g0, g1, g2⟩
    exact ⟨by rw [o_burns_ok g0 g1 g2], by rw [o_burns_ok g0 g1 g2]; show wC g a (brN C (nN x) (nN y + 1 - nN x)) (4 * cM C) = wC g a (brN C (nN x) (nN y + 1 - nN x)) (4 * cM (brN C (nN x) (nN y + 1 - nN x))); rw [show cM (brN C (nN x) (nN y + 1 - nN x)) = cM C from by unfold cM; rw [brN_k _ _ (by decide)]]⟩
  · rintro E w' ⟨rfl, (⟨rfl, n0⟩ | ⟨rfl, g0, n1⟩ | ⟨rfl, g0, g1, n2⟩)⟩
    · exact ⟨by rw [xcd_B, o_burns_0 n0], by rw [o_burns_0 n0]⟩
    · exact ⟨by rw [xcd_B, o_burns_1 g0 n1], by rw [o_burns_1 g0 n1]⟩
    · exact ⟨by rw [xcd_A, o_burns_2 g0 g1 n2], by rw [o_burns_2 g0 g1 n2]⟩
  · rintro E w' ⟨_, ⟨rfl, _⟩ | ⟨rfl, _⟩ | ⟨rfl, _⟩⟩
    · exact (Or.inl rfl)
    · exact (Or.inl rfl)
    · exact (Or.inr rfl)
theorem fo_alters (l : Launch) (D : va_G) (g : zG) (a : Nat → Nat) (C : zMS) (hst : l.stackTraces = false) (hI : CI C) (x : Int32) (y : Int32) (z : Int32) : zWrp l yL_alters wsL_alters { frames := 8, cells := 3, slots := 18, locals := 126 } D (zT g) (wC g a C (4 * cM C)) [.ref (a 0), .int x, .int y, .int z] (pPost g a (o_alters C x y z)) 3 18 := by
  refine wr_alters l D g (a 0) (wC g a C (4 * cM C)) _ rfl x y z _ _ (pPost g a (o_alters C x y z)) ?_ ?_ ?_ (cc_X6_alter l D g a C (4 * cM C) hst hI x y z).L
  · rintro r w' ⟨rfl, rfl, g0, g1, g2, g3⟩
    exact ⟨by rw [o_alters_ok g0 g1 g2 g3], by rw [o_alters_ok g0 g1 g2 g3]; show wC g a (up2 C 18 (nN x * 4 + nN y) z) (4 * cM C) = wC g a (up2 C 18 (nN x * 4 + nN y) z) (4 * cM (up2 C 18 (nN x * 4 + nN y) z)); rw [show cM (up2 C 18 (nN x * 4 + nN y) z) = cM C from by unfold cM; rw [up2_k (by decide)]]⟩
  · rintro E w' ⟨rfl, (⟨rfl, n0⟩ | ⟨rfl, g0, n1⟩ | ⟨rfl, g0, g1, n2⟩ | ⟨rfl, g0, g1, g2, n3⟩)⟩
    · exact ⟨by rw [xcd_B, o_alters_0 n0], by rw [o_alters_0 n0]⟩
    · exact ⟨by rw [xcd_A, o_alters_1 g0 n1], by rw [o_alters_1 g0 n1]⟩
    · exact ⟨by rw [xcd_A, o_alters_2 g0 g1 n2], by rw [o_alters_2 g0 g1 n2]⟩
    · exact ⟨by rw [xcd_S, o_alters_3 g0 g1 g2 n3], by rw [o_alters_3 g0 g1 g2 n3]⟩
  · rintro E w' ⟨_, ⟨rfl, _⟩ | ⟨rfl, _⟩ | ⟨rfl, _⟩ | ⟨rfl, _⟩⟩
    · exact (Or.inl rfl)
    · exact (Or.inr (Or.inl rfl))
    · exact (Or.inr (Or.inl rfl))
    · exact (Or.inr (Or.inr rfl))
theorem fo_copies (l : Launch) (D : va_G) (g : zG) (a : Nat → Nat) (C : zMS) (hst : l.stackTraces = false) (hI : CI C) (hJ : CJ C) : zWrp l yL_copies wsL_copies { frames := 8, cells := 5, slots := 413, locals := 130 } D (zT g) (wC g a C (4 * cM C)) [.ref (a 0)] (fPost g a (o_copies C)) 5 413 := by
  refine wr_copies l D g (a 0) (wC g a C (4 * cM C)) _ rfl _ _ (fPost g a (o_copies C)) ?_ ?_ ?_ (cl_X6_copy l D g a C hst hI hJ)
  · rintro r w' ⟨⟨rfl, a', ha, rfl⟩, g0⟩
    exact ⟨a', ha 0 (by omega), by rw [o_copies_ok g0], by rw [o_copies_ok g0]; show _ = wC g a' (mkC C (-1) 0) (4 * cM (mkC C (-1) 0)); rw [mkC_M (g0).1, Nat.mul_add]⟩
  · rintro E w' ⟨rfl, ⟨rfl, n0⟩⟩
    exact ⟨a, rfl, by rw [xcd_S, o_copies_0 n0], by rw [o_copies_0 n0]⟩
  · rintro E w' ⟨_, rfl, _⟩
    exact rfl
theorem fo_copiesFrom (l : Launch) (D : va_G) (g : zG) (a : Nat → Nat) (C : zMS) (hst : l.stackTraces = false) (hI : CI C) (hJ : CJ C) (x : Int32) : zWrp l yL_copiesFrom wsL_copiesFrom { frames := 8, cells := 6, slots := 419, locals := 132 } D (zT g) (wC g a C (4 * cM C)) [.ref (a 0), .int x] (fPost g a (o_copiesFrom C x)) 6 419 := by
  refine wr_copiesFrom l D g (a 0) (wC g a C (4 * cM C)) _ rfl x _ _ (fPost g a (o_copiesFrom C x)) ?_ ?_ ?_ (cl_X6_copyFrom l D g a C hst hI hJ x)
  · rintro r w' ⟨⟨rfl, a', ha, rfl⟩, g0, g1⟩
    exact ⟨a', ha 0 (by omega), by rw [o_copiesFrom_ok g0 g1], by rw [o_copiesFrom_ok g0 g1]; show _ = wC g a' (mkC C x (cE C (nN x))) (4 * cM (mkC C x (cE C (nN x)))); rw [mkC_M (g1).1, Nat.mul_add]⟩
  · rintro E w' ⟨rfl, (⟨rfl, n0⟩ | ⟨rfl, g0, n1⟩)⟩
    · exact ⟨a, rfl, by rw [xcd_B, o_copiesFrom_0 n0], by rw [o_copiesFrom_0 n0]⟩
    · exact ⟨a, rfl, by rw [xcd_S, o_copiesFrom_1 g0 n1], by rw [o_copiesFrom_1 g0 n1]⟩
  · rintro E w' ⟨_, ⟨rfl, _⟩ | ⟨rfl, _⟩⟩
    · exact (Or.inl rfl)
    · exact (Or.inr rfl)
theorem fo_carries0 (l : Launch) (D : va_G) (g : zG) (a : Nat → Nat) (C : zMS) (hst : l.stackTraces = false) (hI : CI C) (hJ : CJ C) (x : Int32) : zWrp l yL_carries wsL_carries { frames := 8, cells := 1, slots := 6, locals := 127 } D (zT g) (wC g a C (4 * cM C)) [.ref (a 0), .int x, .int (nI 0)] (pPost g a (o_carries0 C x)) 1 6 := by
  refine wr_carries l D g (a 0) (wC g a C (4 * cM C)) _ rfl x (nI 0) _ _ (pPost g a (o_carries0 C x)) ?_ ?_ ?_ (cc_X6_carry_0 l D g a C (4 * cM C) hst hI (Nat.le_refl _) hJ x).L
  · rintro r w' ⟨rfl, rfl, g0⟩
    exact ⟨by rw [o_carries0_ok g0], by rw [o_carries0_ok g0]; show wC g a (up2 C (43 + 8 * nN x) 0 (nI 0)) (4 * cM C) = wC g a (up2 C (43 + 8 * nN x) 0 (nI 0)) (4 * cM (up2 C (43 + 8 * nN x) 0 (nI 0))); rw [show cM (up2 C (43 + 8 * nN x) 0 (nI 0)) = cM C from by unfold cM; rw [up2_k (by omega)]]⟩
  · rintro E w' ⟨rfl, ⟨rfl, n0⟩⟩
    exact ⟨by rw [xcd_B, o_carries0_0 n0], by rw [o_carries0_0 n0]⟩
  · rintro E w' ⟨_, rfl, _⟩
    exact rfl
theorem fo_carries1 (l : Launch) (D : va_G) (g : zG) (a : Nat → Nat) (C : zMS) (hst : l.stackTraces = false) (hI : CI C) (hJ : CJ C) (x : Int32) : zWrp l yL_carries wsL_carries { frames := 8, cells := 1, slots := 6, locals := 127 } D (zT g) (wC g a C (4 * cM C)) [.ref (a 0), .int x, .int (nI 1)] (pPost g a (o_carries1 C x)) 1 6 := by
  refine wr_carries l D g (a 0) (wC g a C (4 * cM C)) _ rfl x (nI 1) _ _ (pPost g a (o_carries1 C x)) ?_ ?_ ?_ (cc_X6_carry_1 l D g a C (4 * cM C) hst hI (Nat.le_refl _) hJ x).L
  · rintro r w' ⟨rfl, rfl, g0⟩
    exact ⟨by rw [o_carries1_ok g0], by rw [o_carries1_ok g0]; show wC g a (bkN (cvC C (nN x)) (nN x) (cE (cvC C (nN x)) (nN x) - cF (cvC C (nN x)) (nN x))) (4 * cM C) = wC g a (bkN (cvC C (nN x)) (nN x) (cE (cvC C (nN x)) (nN x) - cF (cvC C (nN x)) (nN x))) (4 * cM (bkN (cvC C (nN x)) (nN x) (cE (cvC C (nN x)) (nN x) - cF (cvC C (nN x)) (nN x)))); rw [show cM (bkN (cvC C (nN x)) (nN x) (cE (cvC C (nN x)) (nN x) - cF (cvC C (nN x)) (nN x))) = cM C from by unfold cM cvC; rw [bkN_k _ _ (by omega), up2_k (by omega)]]⟩
  · rintro E w' ⟨rfl, ⟨rfl, n0⟩⟩
    exact ⟨by rw [xcd_B, o_carries1_0 n0], by rw [o_carries1_0 n0]⟩
  · rintro E w' ⟨_, rfl, _⟩
    exact rfl
theorem fo_rots (l : Launch) (D : va_G) (g : zG) (a : Nat → Nat) (C : zMS) (hst : l.stackTraces = false) (hI : CI C) (x : Int32) (y : Int32) : zWrp l yL_rots wsL_rots { frames := 8, cells := 2, slots := 12, locals := 127 } D (zT g) (wC g a C (4 * cM C)) [.ref (a 0), .int x, .int y] (pPost g a (o_rots C x y)) 2 12 := by
  refine wr_rots l D g (a 0) (wC g a C (4 * cM C)) _ rfl x y _ _ (pPost g a (o_rots C x y)) ?_ ?_ ?_ ?_ (cc_X6_rot l D g a C (4 * cM C) hst hI (Nat.le_refl _) x y).L
  · rintro r w' ⟨rfl, rfl, g0, g1⟩
    exact ⟨by rw [o_rots_ok g0 g1], by rw [o_rots_ok g0 g1]; show wC g a (blC C (44 + 8 * nN x) (45 + 8 * nN x) (nN y)) (4 * cM C) = wC g a (blC C (44 + 8 * nN x) (45 + 8 * nN x) (nN y)) (4 * cM (blC C (44 + 8 * nN x) (45 + 8 * nN x) (nN y))); rw [show cM (blC C (44 + 8 * nN x) (45 + 8 * nN x) (nN y)) = cM C from by unfold cM; rw [blC_k (by omega)]]⟩
  · rintro E w' ⟨rfl, (⟨rfl, n0⟩ | ⟨rfl, g0, n1⟩)⟩
    · exact ⟨by rw [xcd_B, o_rots_0 n0], by rw [o_rots_0 n0]⟩
    · exact ⟨by rw [xcd_B, o_rots_1 g0 n1], by rw [o_rots_1 g0 n1]⟩
  · rintro E w' ⟨_, ⟨rfl, _⟩ | ⟨rfl, _⟩⟩
    · exact rfl
    · exact rfl
  · rintro r w' ⟨rfl, -⟩; exact CI_z44 hI _ _
theorem fo_throwsAway (l : Launch) (D : va_G) (g : zG) (a : Nat → Nat) (C : zMS) (hst : l.stackTraces = false) (hI : CI C) (hJ : CJ C) (hn : ∀ i j, i < 30 + 4 * cM C → j < 30 + 4 * cM C → a i = a j → i = j) (x : Int32) : zWrp l yL_throwsAway wsL_throwsAway { frames := 8, cells := 2, slots := 12, locals := 126 } D (zT g) (wC g a C (4 * cM C)) [.ref (a 0), .int x] (pPost g a (o_throwsAway C x)) 2 12 := by
  refine wr_throwsAway l D g (a 0) (wC g a C (4 * cM C)) _ rfl x _ _ (pPost g a (o_throwsAway C x)) ?_ ?_ ?_ (cc_X6_throwAway l D g a C (4 * cM C) hst hI (Nat.le_refl _) hJ hn x).L
  · rintro r w' ⟨rfl, rfl, g0, g1⟩
    exact ⟨by rw [o_throwsAway_ok g0 g1], by rw [o_throwsAway_ok g0 g1]; show wC g a (up2 C 28 (nN x) (nI 0)) (4 * cM C) = wC g a (up2 C 28 (nN x) (nI 0)) (4 * cM (up2 C 28 (nN x) (nI 0))); rw [show cM (up2 C 28 (nN x) (nI 0)) = cM C from by unfold cM; rw [up2_k (by decide)]]⟩
  · rintro E w' ⟨rfl, (⟨rfl, n0⟩ | ⟨rfl, g0, n1⟩)⟩
    · exact ⟨by rw [xcd_B, o_throwsAway_0 n0], by rw [o_throwsAway_0 n0]⟩
    · exact ⟨by rw [xcd_S, o_throwsAway_1 g0 n1], by rw [o_throwsAway_1 g0 n1]⟩
  · rintro E w' ⟨_, ⟨rfl, _⟩ | ⟨rfl, _⟩⟩
    · exact (Or.inl rfl)
    · exact (Or.inr rfl)
theorem fo_restores (l : Launch) (D : va_G) (g : zG) (a : Nat → Nat) (C : zMS) (hst : l.stackTraces = false) (hI : CI C) (hJ : CJ C) (x : Int32) : zWrp l yL_restores wsL_restores { frames := 8, cells := 2, slots := 12, locals := 128 } D (zT g) (wC g a C (4 * cM C)) [.ref (a 0), .int x] (pPost g a (o_restores C x)) 2 12 := by
  refine wr_restores l D g (a 0) (wC g a C (4 * cM C)) _ rfl x _ _ (pPost g a (o_restores C x)) ?_ ?_ ?_ (cc_X6_restore l D g a C (4 * cM C) hst hI (Nat.le_refl _) hJ x).L
  · rintro r w' ⟨rfl, rfl, g0, g1⟩
    exact ⟨by rw [o_restores_ok g0 g1], by rw [o_restores_ok g0 g1]; show wC g a (gbA (chN (cBs C) (nN x)) C) (4 * cM C) = wC g a (gbA (chN (cBs C) (nN x)) C) (4 * cM (gbA (chN (cBs C) (nN x)) C)); rw [show cM (gbA (chN (cBs C) (nN x)) C) = cM C from by unfold cM; rw [gbA_k (by decide)]]⟩
  · rintro E w' ⟨rfl, (⟨rfl, n0⟩ | ⟨rfl, g0, n1⟩)⟩
    · exact ⟨by rw [xcd_B, o_restores_0 n0], by rw [o_restores_0 n0]⟩
    · exact ⟨by rw [xcd_S, o_restores_1 g0 n1], by rw [o_restores_1 g0 n1]⟩
  · rintro E w' ⟨_, ⟨rfl, _⟩ | ⟨rfl, _⟩⟩
    · exact (Or.inl rfl)
    · exact (Or.inr rfl)
theorem fo_opens (l : Launch) (D : va_G) (g : zG) (a : Nat → Nat) (C : zMS) (hst : l.stackTraces = false) (hI : CI C) : zWrp l yL_opens wsL_opens { frames := 7, cells := 1, slots := 6, locals := 102 } D (zT g) (wC g a C (4 * cM C)) [.ref (a 0)] (pPost g a (o_opens C)) 1 6 := by
  refine wr_opens l D g (a 0) (wC g a C (4 * cM C)) _ rfl _ _ (pPost g a (o_opens C)) ?_ ?_ ?_ (cc_X6_open l D g a C (4 * cM C) hst hI).L
  · rintro r w' ⟨rfl, rfl, g0⟩
    exact ⟨by rw [o_opens_ok g0], by rw [o_opens_ok g0]; show wC g a (up2 (up2 C 21 (cK C) (nI 1)) 22 0 (nI (cK C + 1))) (4 * cM C) = wC g a (up2 (up2 C 21 (cK C) (nI 1)) 22 0 (nI (cK C + 1))) (4 * cM (up2 (up2 C 21 (cK C) (nI 1)) 22 0 (nI (cK C + 1)))); rw [show cM (up2 (up2 C 21 (cK C) (nI 1)) 22 0 (nI (cK C + 1))) = cM C from by unfold cM; rw [up2_k (by decide), up2_k (by decide)]]⟩
  · rintro E w' ⟨rfl, ⟨rfl, n0⟩⟩
    exact ⟨by rw [xcd_S, o_opens_0 n0], by rw [o_opens_0 n0]⟩
  · rintro E w' ⟨_, rfl, _⟩
    exact rfl
theorem fo_closes (l : Launch) (D : va_G) (g : zG) (a : Nat → Nat) (C : zMS) (hst : l.stackTraces = false) (hI : CI C) (x : Int32) : zWrp l yL_closes wsL_closes { frames := 8, cells := 2, slots := 12, locals := 125 } D (zT g) (wC g a C (4 * cM C)) [.ref (a 0), .int x] (pPost g a (o_closes C x)) 2 12 := by
  refine wr_closes l D g (a 0) (wC g a C (4 * cM C)) _ rfl x _ _ (pPost g a (o_closes C x)) ?_ ?_ ?_ (cc_X6_close l D g a C (4 * cM C) hst hI x).L
  · rintro r w' ⟨rfl, rfl, g0, g1⟩
    exact ⟨by rw [o_closes_ok g0 g1], by rw [o_closes_ok g0 g1]; show wC g a (up2 C 21 (nN x) (nI 0)) (4 * cM C) = wC g a (up2 C 21 (nN x) (nI 0)) (4 * cM (up2 C 21 (nN x) (nI 0))); rw [show cM (up2 C 21 (nN x) (nI 0)) = cM C from by unfold cM; rw [up2_k (by decide)]]⟩
  · rintro E w' ⟨rfl, (⟨rfl, n0⟩ | ⟨rfl, g0, n1⟩)⟩
    · exact ⟨by rw [xcd_B, o_closes_0 n0], by rw [o_closes_0 n0]⟩
    · exact ⟨by rw [xcd_S, o_closes_1 g0 n1], by rw [o_closes_1 g0 n1]⟩
  · rintro E w' ⟨_, ⟨rfl, _⟩ | ⟨rfl, _⟩⟩
    · exact (Or.inl rfl)
    · exact (Or.inr rfl)
theorem fo_holds (l : Launch) (D : va_G) (g : zG) (a : Nat → Nat) (C : zMS) (hst : l.stackTraces = false) (hI : CI C) (x : Int32) (y : Int32) (f : Int32) (t : Int32) : zWrp l yL_holds wsL_holds { frames := 8, cells := 3, slots := 18, locals := 127 } D (zT g) (wC g a C (4 * cM C)) [.ref (a 0), .int x, .int y, .int f, .int t] (pPost g a (o_holds C x y f t)) 3 18 := by
  refine wr_holds l D g (a 0) (wC g a C (4 * cM C)) _ rfl x y f t _ _ (pPost g a (o_holds C x y f t)) ?_ ?_ ?_ (cc_X6_hold l D g a C (4 * cM C) hst hI x y f t).L
  · rintro r w' ⟨rfl, rfl, g0, g1, g2, g3⟩
    exact ⟨by rw [o_holds_ok g0 g1 g2 g3], by rw [o_holds_ok g0 g1 g2 g3]; show wC g a (up2 (up2 (up2 (up2 (up2 C 23 (cH C) x) 24 (cH C) y) 25 (cH C) f) 26 (cH C) t) 27 0 (nI (cH C + 1))) (4 * cM C) = wC g a (up2 (up2 (up2 (up2 (up2 C 23 (cH C) x) 24 (cH C) y) 25 (cH C) f) 26 (cH C) t) 27 0 (nI (cH C + 1))) (4 * cM (up2 (up2 (up2 (up2 (up2 C 23 (cH C) x) 24 (cH C) y) 25 (cH C) f) 26 (cH C) t) 27 0 (nI (cH C + 1)))); rw [show cM (up2 (up2 (up2 (up2 (up2 C 23 (cH C) x) 24 (cH C) y) 25 (cH C) f) 26 (cH C) t) 27 0 (nI (cH C + 1))) = cM C from by unfold cM; rw [up2_k (by decide), up2_k (by decide), up2_k (by decide), up2_k (by decide), up2_k (by decide)]]⟩
  · rintro E w' ⟨rfl, (⟨rfl, n0⟩ | ⟨rfl, g0, n1⟩ | ⟨rfl, g0, g1, n2⟩ | ⟨rfl, g0, g1, g2, n3⟩)⟩
    · exact ⟨by rw [xcd_B, o_holds_0 n0], by rw [o_holds_0 n0]⟩
    · exact ⟨by rw [xcd_B, o_holds_1 g0 n1], by rw [o_holds_1 g0 n1]⟩
    · exact ⟨by rw [xcd_A, o_holds_2 g0 g1 n2], by rw [o_holds_2 g0 g1 n2]⟩
    · exact ⟨by rw [xcd_S, o_holds_3 g0 g1 g2 n3], by rw [o_holds_3 g0 g1 g2 n3]⟩
  · rintro E w' ⟨_, ⟨rfl, _⟩ | ⟨rfl, _⟩ | ⟨rfl, _⟩ | ⟨rfl, _⟩⟩
    · exact (Or.inl rfl)
    · exact (Or.inl rfl)
    · exact (Or.inr (Or.inl rfl))
    · exact (Or.inr (Or.inr rfl))
theorem fo_strikes (l : Launch) (D : va_G) (g : zG) (a : Nat → Nat) (C : zMS) (hst : l.stackTraces = false) (hI : CI C) (x : Int32) (y : Int32) : zWrp l yL_strikes wsL_strikes { frames := 8, cells := 3, slots := 18, locals := 125 } D (zT g) (wC g a C (4 * cM C)) [.ref (a 0), .int x, .int y] (pPost g a (o_strikes C x y)) 3 18 := by
  refine wr_strikes l D g (a 0) (wC g a C (4 * cM C)) _ rfl x y _ _ (pPost g a (o_strikes C x y)) ?_ ?_ ?_ (cc_X6_strike l D g a C (4 * cM C) hst hI (Nat.le_refl _) x y).L
  · rintro r w' ⟨rfl, rfl, g0, g1, g2⟩
    exact ⟨by rw [o_strikes_ok g0 g1 g2], by rw [o_strikes_ok g0 g1 g2]; show wC g a (bvN (stC C (nN y)) (nN y) (cM (stC C (nN y)))) (4 * cM C) = wC g a (bvN (stC C (nN y)) (nN y) (cM (stC C (nN y)))) (4 * cM (bvN (stC C (nN y)) (nN y) (cM (stC C (nN y))))); rw [show cM (bvN (stC C (nN y)) (nN y) (cM (stC C (nN y)))) = cM C from by unfold cM stC; rw [bvN_k _ _ (by omega), blC_k (by decide), up2_k (by decide)]]⟩
  · rintro E w' ⟨rfl, (⟨rfl, n0⟩ | ⟨rfl, g0, n1⟩ | ⟨rfl, g0, g1, n2⟩)⟩
    · exact ⟨by rw [xcd_B, o_strikes_0 n0], by rw [o_strikes_0 n0]⟩
    · exact ⟨by rw [xcd_B, o_strikes_1 g0 n1], by rw [o_strikes_1 g0 n1]⟩
    · exact ⟨by rw [xcd_S, o_strikes_2 g0 g1 n2], by rw [o_strikes_2 g0 g1 n2]⟩
  · rintro E w' ⟨_, ⟨rfl, _⟩ | ⟨rfl, _⟩ | ⟨rfl, _⟩⟩
    · exact (Or.inl rfl)
    · exact (Or.inl rfl)
    · exact (Or.inr rfl)
theorem fo_state (l : Launch) (D : va_G) (g : zG) (a : Nat → Nat) (C : zMS) (hst : l.stackTraces = false) (hI : CI C) (x : Int32) : zWrp l yL_state wsL_state { frames := 8, cells := 1, slots := 6, locals := 124 } D (zT g) (wC g a C (4 * cM C)) [.ref (a 0), .int x] (rPost g a C (s_state C x)) 1 6 := by
  refine wr_state l D g (a 0) (wC g a C (4 * cM C)) _ rfl x _ _ (rPost g a C (s_state C x)) ?_ ?_ ?_ (cc_X6_state l D g a C (4 * cM C) hst hI x).L
  · rintro r w' ⟨rfl, rfl, g0⟩
    exact ⟨by rw [s_state_ok g0], rfl⟩
  · rintro E w' ⟨rfl, ⟨rfl, n0⟩⟩
    exact ⟨by rw [xcd_B, s_state_0 n0], rfl⟩
  · rintro E w' ⟨_, rfl, _⟩
    exact rfl
