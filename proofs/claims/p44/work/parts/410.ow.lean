/-! what the law's wrappers answer, and leave behind -/
noncomputable def gd (P : Prop) (e : Int32) (C : zMS) (k : Int32 × zMS) : Int32 × zMS := @ite _ P (Classical.propDecidable P) k (e, C)
theorem gd_t {P : Prop} {e : Int32} {C : zMS} {k : Int32 × zMS} (h : P) : gd P e C k = k := if_pos h
theorem gd_f {P : Prop} {e : Int32} {C : zMS} {k : Int32 × zMS} (h : ¬ P) : gd P e C k = (e, C) := if_neg h
noncomputable def cUE (C : zMS) (y : Int32) : Nat := Classical.epsilon (cUp C y)
theorem cUE_eq {C : zMS} {y : Int32} {e : Nat} (h : cUp C y e) : e = cUE C y := cUp_u h (Classical.epsilon_spec (p := cUp C y) ⟨e, h⟩)
def xcd (E : String) : Int32 := if E = "java/lang/IndexOutOfBoundsException" then (-2000000001) else if E = "java/lang/IllegalArgumentException" then (-2000000002) else (-2000000003)
theorem xcd_B : xcd "java/lang/IndexOutOfBoundsException" = (-2000000001) := by decide
theorem xcd_A : xcd "java/lang/IllegalArgumentException" = (-2000000002) := by decide
theorem xcd_S : xcd "java/lang/IllegalStateException" = (-2000000003) := by decide
def pPost (g : zG) (a : Nat → Nat) (q : Int32 × zMS) : Int32 → va_W → Prop := fun r w' => r = q.1 ∧ w' = wC g a q.2 (4 * cM q.2)
def fPost (g : zG) (a : Nat → Nat) (q : Int32 × zMS) : Int32 → va_W → Prop := fun r w' => ∃ a' : Nat → Nat, a' 0 = a 0 ∧ r = q.1 ∧ w' = wC g a' q.2 (4 * cM q.2)
def rPost (g : zG) (a : Nat → Nat) (C : zMS) (v : Int32) : Int32 → va_W → Prop := fun r w' => r = v ∧ w' = wC g a C (4 * cM C)
noncomputable def o_legs (C : zMS) (x : Int32) (y : Int32) : Int32 × zMS := gd (rng x 8) (-2000000001) C (gd ((-10000) ≤ y ∧ y ≤ nI (10000)) (-2000000002) C (gd (¬ y = 0) (-2000000002) C (gd (cD C < 4) (-2000000003) C ((nI (cD C + 1), up2 (up2 (up2 C 1 (cD C) x) 2 (cD C) y) 3 0 (nI (cD C + 1)))))))
theorem o_legs_ok {C : zMS} {x : Int32} {y : Int32} (g0 : rng x 8) (g1 : (-10000) ≤ y ∧ y ≤ nI (10000)) (g2 : ¬ y = 0) (g3 : cD C < 4) : o_legs C x y = (nI (cD C + 1), up2 (up2 (up2 C 1 (cD C) x) 2 (cD C) y) 3 0 (nI (cD C + 1))) := by unfold o_legs; rw [gd_t g0, gd_t g1, gd_t g2, gd_t g3]
theorem o_legs_0 {C : zMS} {x : Int32} {y : Int32} (n0 : ¬ (rng x 8)) : o_legs C x y = ((-2000000001), C) := by unfold o_legs; rw [gd_f n0]
theorem o_legs_1 {C : zMS} {x : Int32} {y : Int32} (g0 : rng x 8) (n1 : ¬ ((-10000) ≤ y ∧ y ≤ nI (10000))) : o_legs C x y = ((-2000000002), C) := by unfold o_legs; rw [gd_t g0, gd_f n1]
theorem o_legs_2 {C : zMS} {x : Int32} {y : Int32} (g0 : rng x 8) (g1 : (-10000) ≤ y ∧ y ≤ nI (10000)) (n2 : ¬ (¬ y = 0)) : o_legs C x y = ((-2000000002), C) := by unfold o_legs; rw [gd_t g0, gd_t g1, gd_f n2]
theorem o_legs_3 {C : zMS} {x : Int32} {y : Int32} (g0 : rng x 8) (g1 : (-10000) ≤ y ∧ y ≤ nI (10000)) (g2 : ¬ y = 0) (n3 : ¬ (cD C < 4)) : o_legs C x y = ((-2000000003), C) := by unfold o_legs; rw [gd_t g0, gd_t g1, gd_t g2, gd_f n3]
noncomputable def o_writes (C : zMS) (x : Int32) : Int32 × zMS := gd (rng x 10000) (-2000000002) C (gd ((2 ≤ cD C ∧ zsum (C 2) (cD C) = 0) ∧ cP C < 80) (-2000000003) C ((nI (cP C), up2 (apC C (cP C) 1 2 (cD C) x (nI (cT C))) 3 0 (nI 0))))
theorem o_writes_ok {C : zMS} {x : Int32} (g0 : rng x 10000) (g1 : (2 ≤ cD C ∧ zsum (C 2) (cD C) = 0) ∧ cP C < 80) : o_writes C x = (nI (cP C), up2 (apC C (cP C) 1 2 (cD C) x (nI (cT C))) 3 0 (nI 0)) := by unfold o_writes; rw [gd_t g0, gd_t g1]
theorem o_writes_0 {C : zMS} {x : Int32} (n0 : ¬ (rng x 10000)) : o_writes C x = ((-2000000002), C) := by unfold o_writes; rw [gd_f n0]
theorem o_writes_1 {C : zMS} {x : Int32} (g0 : rng x 10000) (n1 : ¬ ((2 ≤ cD C ∧ zsum (C 2) (cD C) = 0) ∧ cP C < 80)) : o_writes C x = ((-2000000003), C) := by unfold o_writes; rw [gd_t g0, gd_f n1]
noncomputable def o_reverses (C : zMS) (x : Int32) : Int32 × zMS := gd (rng x (cP C)) (-2000000001) C (gd ((cTB C (nN x) ∧ ¬ 0 ≤ C 12 (nN x) ∧ C 13 (nN x) = 0) ∧ cP C < 80) (-2000000003) C ((nI (cP C), rvC C (nN x) (nI (cT C)))))
theorem o_reverses_ok {C : zMS} {x : Int32} (g0 : rng x (cP C)) (g1 : (cTB C (nN x) ∧ ¬ 0 ≤ C 12 (nN x) ∧ C 13 (nN x) = 0) ∧ cP C < 80) : o_reverses C x = (nI (cP C), rvC C (nN x) (nI (cT C))) := by unfold o_reverses; rw [gd_t g0, gd_t g1]
theorem o_reverses_0 {C : zMS} {x : Int32} (n0 : ¬ (rng x (cP C))) : o_reverses C x = ((-2000000001), C) := by unfold o_reverses; rw [gd_f n0]
theorem o_reverses_1 {C : zMS} {x : Int32} (g0 : rng x (cP C)) (n1 : ¬ ((cTB C (nN x) ∧ ¬ 0 ≤ C 12 (nN x) ∧ C 13 (nN x) = 0) ∧ cP C < 80)) : o_reverses C x = ((-2000000003), C) := by unfold o_reverses; rw [gd_t g0, gd_f n1]
noncomputable def o_passes (C : zMS) (x : Int32) : Int32 × zMS := gd (¬ x < nI 1 ∧ x ≤ nI 100) (-2000000002) C (gd (nI (cT C) + x ≤ nI 400) (-2000000003) C ((nI (cT C) + x, up2 C 0 0 (nI (cT C) + x))))
theorem o_passes_ok {C : zMS} {x : Int32} (g0 : ¬ x < nI 1 ∧ x ≤ nI 100) (g1 : nI (cT C) + x ≤ nI 400) : o_passes C x = (nI (cT C) + x, up2 C 0 0 (nI (cT C) + x)) := by unfold o_passes; rw [gd_t g0, gd_t g1]
theorem o_passes_0 {C : zMS} {x : Int32} (n0 : ¬ (¬ x < nI 1 ∧ x ≤ nI 100)) : o_passes C x = ((-2000000002), C) := by unfold o_passes; rw [gd_f n0]
theorem o_passes_1 {C : zMS} {x : Int32} (g0 : ¬ x < nI 1 ∧ x ≤ nI 100) (n1 : ¬ (nI (cT C) + x ≤ nI 400)) : o_passes C x = ((-2000000003), C) := by unfold o_passes; rw [gd_t g0, gd_f n1]
noncomputable def o_burns (C : zMS) (x : Int32) (y : Int32) : Int32 × zMS := gd (rng x (cP C)) (-2000000001) C (gd (rng y (cP C)) (-2000000001) C (gd (¬ nN y < nN x) (-2000000002) C ((nI (brK C (nN x) (nN y + 1 - nN x)), brN C (nN x) (nN y + 1 - nN x)))))
theorem o_burns_ok {C : zMS} {x : Int32} {y : Int32} (g0 : rng x (cP C)) (g1 : rng y (cP C)) (g2 : ¬ nN y < nN x) : o_burns C x y = (nI (brK C (nN x) (nN y + 1 - nN x)), brN C (nN x) (nN y + 1 - nN x)) := by unfold o_burns; rw [gd_t g0, gd_t g1, gd_t g2]
theorem o_burns_0 {C : zMS} {x : Int32} {y : Int32} (n0 : ¬ (rng x (cP C))) : o_burns C x y = ((-2000000001), C) := by unfold o_burns; rw [gd_f n0]
theorem o_burns_1 {C : zMS} {x : Int32} {y : Int32} (g0 : rng x (cP C)) (n1 : ¬ (rng y (cP C))) : o_burns C x y = ((-2000000001), C) := by unfold o_burns; rw [gd_t g0, gd_f n1]
theorem o_burns_2 {C : zMS} {x : Int32} {y : Int32} (g0 : rng x (cP C)) (g1 : rng y (cP C)) (n2 : ¬ (¬ nN y < nN x)) : o_burns C x y = ((-2000000002), C) := by unfold o_burns; rw [gd_t g0, gd_t g1, gd_f n2]
noncomputable def o_alters (C : zMS) (x : Int32) (y : Int32) (z : Int32) : Int32 × zMS := gd (rng x (cP C)) (-2000000001) C (gd (rng y 4) (-2000000002) C (gd ((-10000) ≤ z ∧ z ≤ nI (10000)) (-2000000002) C (gd (¬ C 17 (nN x) = 0 ∧ nN y < cL C (nN x)) (-2000000003) C ((C 18 (nN x * 4 + nN y), up2 C 18 (nN x * 4 + nN y) z)))))
theorem o_alters_ok {C : zMS} {x : Int32} {y : Int32} {z : Int32} (g0 : rng x (cP C)) (g1 : rng y 4) (g2 : (-10000) ≤ z ∧ z ≤ nI (10000)) (g3 : ¬ C 17 (nN x) = 0 ∧ nN y < cL C (nN x)) : o_alters C x y z = (C 18 (nN x * 4 + nN y), up2 C 18 (nN x * 4 + nN y) z) := by unfold o_alters; rw [gd_t g0, gd_t g1, gd_t g2, gd_t g3]
theorem o_alters_0 {C : zMS} {x : Int32} {y : Int32} {z : Int32} (n0 : ¬ (rng x (cP C))) : o_alters C x y z = ((-2000000001), C) := by unfold o_alters; rw [gd_f n0]
theorem o_alters_1 {C : zMS} {x : Int32} {y : Int32} {z : Int32} (g0 : rng x (cP C)) (n1 : ¬ (rng y 4)) : o_alters C x y z = ((-2000000002), C) := by unfold o_alters; rw [gd_t g0, gd_f n1]
theorem o_alters_2 {C : zMS} {x : Int32} {y : Int32} {z : Int32} (g0 : rng x (cP C)) (g1 : rng y 4) (n2 : ¬ ((-10000) ≤ z ∧ z ≤ nI (10000))) : o_alters C x y z = ((-2000000002), C) := by unfold o_alters; rw [gd_t g0, gd_t g1, gd_f n2]
theorem o_alters_3 {C : zMS} {x : Int32} {y : Int32} {z : Int32} (g0 : rng x (cP C)) (g1 : rng y 4) (g2 : (-10000) ≤ z ∧ z ≤ nI (10000)) (n3 : ¬ (¬ C 17 (nN x) = 0 ∧ nN y < cL C (nN x))) : o_alters C x y z = ((-2000000003), C) := by unfold o_alters; rw [gd_t g0, gd_t g1, gd_t g2, gd_f n3]
noncomputable def o_copies (C : zMS) : Int32 × zMS := gd (cM C < 16 ∧ zcnt (fun p => cSt C p = 1) (cP C) = 0) (-2000000003) C ((nI (cM C), mkC C (-1) 0))
theorem o_copies_ok {C : zMS} (g0 : cM C < 16 ∧ zcnt (fun p => cSt C p = 1) (cP C) = 0) : o_copies C = (nI (cM C), mkC C (-1) 0) := by unfold o_copies; rw [gd_t g0]
theorem o_copies_0 {C : zMS} (n0 : ¬ (cM C < 16 ∧ zcnt (fun p => cSt C p = 1) (cP C) = 0)) : o_copies C = ((-2000000003), C) := by unfold o_copies; rw [gd_f n0]
noncomputable def o_copiesFrom (C : zMS) (x : Int32) : Int32 × zMS := gd (cCx C x) (-2000000001) C (gd (cM C < 16 ∧ zcnt (fun p => cSt C p = 1) (cP C) = 0) (-2000000003) C ((nI (cM C), mkC C x (cE C (nN x)))))
theorem o_copiesFrom_ok {C : zMS} {x : Int32} (g0 : cCx C x) (g1 : cM C < 16 ∧ zcnt (fun p => cSt C p = 1) (cP C) = 0) : o_copiesFrom C x = (nI (cM C), mkC C x (cE C (nN x))) := by unfold o_copiesFrom; rw [gd_t g0, gd_t g1]
theorem o_copiesFrom_0 {C : zMS} {x : Int32} (n0 : ¬ (cCx C x)) : o_copiesFrom C x = ((-2000000001), C) := by unfold o_copiesFrom; rw [gd_f n0]
theorem o_copiesFrom_1 {C : zMS} {x : Int32} (g0 : cCx C x) (n1 : ¬ (cM C < 16 ∧ zcnt (fun p => cSt C p = 1) (cP C) = 0)) : o_copiesFrom C x = ((-2000000003), C) := by unfold o_copiesFrom; rw [gd_t g0, gd_f n1]
noncomputable def o_carries0 (C : zMS) (x : Int32) : Int32 × zMS := gd (cCx C x) (-2000000001) C ((nI (0), up2 C (43 + 8 * nN x) 0 (nI 0)))
theorem o_carries0_ok {C : zMS} {x : Int32} (g0 : cCx C x) : o_carries0 C x = (nI (0), up2 C (43 + 8 * nN x) 0 (nI 0)) := by unfold o_carries0; rw [gd_t g0]
theorem o_carries0_0 {C : zMS} {x : Int32} (n0 : ¬ (cCx C x)) : o_carries0 C x = ((-2000000001), C) := by unfold o_carries0; rw [gd_f n0]
noncomputable def o_carries1 (C : zMS) (x : Int32) : Int32 × zMS := gd (cCx C x) (-2000000001) C ((nI (bkK (cvC C (nN x)) (nN x) (cE (cvC C (nN x)) (nN x) - cF (cvC C (nN x)) (nN x))), bkN (cvC C (nN x)) (nN x) (cE (cvC C (nN x)) (nN x) - cF (cvC C (nN x)) (nN x))))
theorem o_carries1_ok {C : zMS} {x : Int32} (g0 : cCx C x) : o_carries1 C x = (nI (bkK (cvC C (nN x)) (nN x) (cE (cvC C (nN x)) (nN x) - cF (cvC C (nN x)) (nN x))), bkN (cvC C (nN x)) (nN x) (cE (cvC C (nN x)) (nN x) - cF (cvC C (nN x)) (nN x))) := by unfold o_carries1; rw [gd_t g0]
theorem o_carries1_0 {C : zMS} {x : Int32} (n0 : ¬ (cCx C x)) : o_carries1 C x = ((-2000000001), C) := by unfold o_carries1; rw [gd_f n0]
noncomputable def o_rots (C : zMS) (x : Int32) (y : Int32) : Int32 × zMS := gd (cCx C x) (-2000000001) C (gd (cIn C (nN x) y) (-2000000001) C ((C (44 + 8 * nN x) (nN y), blC C (44 + 8 * nN x) (45 + 8 * nN x) (nN y))))
theorem o_rots_ok {C : zMS} {x : Int32} {y : Int32} (g0 : cCx C x) (g1 : cIn C (nN x) y) : o_rots C x y = (C (44 + 8 * nN x) (nN y), blC C (44 + 8 * nN x) (45 + 8 * nN x) (nN y)) := by unfold o_rots; rw [gd_t g0, gd_t g1]
theorem o_rots_0 {C : zMS} {x : Int32} {y : Int32} (n0 : ¬ (cCx C x)) : o_rots C x y = ((-2000000001), C) := by unfold o_rots; rw [gd_f n0]
theorem o_rots_1 {C : zMS} {x : Int32} {y : Int32} (g0 : cCx C x) (n1 : ¬ (cIn C (nN x) y)) : o_rots C x y = ((-2000000001), C) := by unfold o_rots; rw [gd_t g0, gd_f n1]
noncomputable def o_throwsAway (C : zMS) (x : Int32) : Int32 × zMS := gd (cCx C x) (-2000000001) C (gd (¬ cIsB C (nN x) ∧ ¬ cAny C (nN x)) (-2000000003) C ((nI (zcnt (fun k => up2 C 28 (nN x) (nI 0) 28 k = 1) (cM (up2 C 28 (nN x) (nI 0)))), up2 C 28 (nN x) (nI 0))))
theorem o_throwsAway_ok {C : zMS} {x : Int32} (g0 : cCx C x) (g1 : ¬ cIsB C (nN x) ∧ ¬ cAny C (nN x)) : o_throwsAway C x = (nI (zcnt (fun k => up2 C 28 (nN x) (nI 0) 28 k = 1) (cM (up2 C 28 (nN x) (nI 0)))), up2 C 28 (nN x) (nI 0)) := by unfold o_throwsAway; rw [gd_t g0, gd_t g1]
theorem o_throwsAway_0 {C : zMS} {x : Int32} (n0 : ¬ (cCx C x)) : o_throwsAway C x = ((-2000000001), C) := by unfold o_throwsAway; rw [gd_f n0]
theorem o_throwsAway_1 {C : zMS} {x : Int32} (g0 : cCx C x) (n1 : ¬ (¬ cIsB C (nN x) ∧ ¬ cAny C (nN x))) : o_throwsAway C x = ((-2000000003), C) := by unfold o_throwsAway; rw [gd_t g0, gd_f n1]
noncomputable def o_restores (C : zMS) (x : Int32) : Int32 × zMS := gd (cCx C x) (-2000000001) C (gd (cWh C (nN x)) (-2000000003) C ((nI (gbB (chN (cBs C) (nN x)) C), gbA (chN (cBs C) (nN x)) C)))
theorem o_restores_ok {C : zMS} {x : Int32} (g0 : cCx C x) (g1 : cWh C (nN x)) : o_restores C x = (nI (gbB (chN (cBs C) (nN x)) C), gbA (chN (cBs C) (nN x)) C) := by unfold o_restores; rw [gd_t g0, gd_t g1]
theorem o_restores_0 {C : zMS} {x : Int32} (n0 : ¬ (cCx C x)) : o_restores C x = ((-2000000001), C) := by unfold o_restores; rw [gd_f n0]
theorem o_restores_1 {C : zMS} {x : Int32} (g0 : cCx C x) (n1 : ¬ (cWh C (nN x))) : o_restores C x = ((-2000000003), C) := by unfold o_restores; rw [gd_t g0, gd_f n1]
noncomputable def o_opens (C : zMS) : Int32 × zMS := gd (cK C < 8) (-2000000003) C ((nI (cK C), up2 (up2 C 21 (cK C) (nI 1)) 22 0 (nI (cK C + 1))))
theorem o_opens_ok {C : zMS} (g0 : cK C < 8) : o_opens C = (nI (cK C), up2 (up2 C 21 (cK C) (nI 1)) 22 0 (nI (cK C + 1))) := by unfold o_opens; rw [gd_t g0]
theorem o_opens_0 {C : zMS} (n0 : ¬ (cK C < 8)) : o_opens C = ((-2000000003), C) := by unfold o_opens; rw [gd_f n0]
noncomputable def o_closes (C : zMS) (x : Int32) : Int32 × zMS := gd (rng x (cK C)) (-2000000001) C (gd (¬ C 21 (nN x) = 0) (-2000000003) C ((nI (zcnt (fun p => cHS C p = (nI 1 <<< (x &&& 31))) (cP C)), up2 C 21 (nN x) (nI 0))))
theorem o_closes_ok {C : zMS} {x : Int32} (g0 : rng x (cK C)) (g1 : ¬ C 21 (nN x) = 0) : o_closes C x = (nI (zcnt (fun p => cHS C p = (nI 1 <<< (x &&& 31))) (cP C)), up2 C 21 (nN x) (nI 0)) := by unfold o_closes; rw [gd_t g0, gd_t g1]
theorem o_closes_0 {C : zMS} {x : Int32} (n0 : ¬ (rng x (cK C))) : o_closes C x = ((-2000000001), C) := by unfold o_closes; rw [gd_f n0]
theorem o_closes_1 {C : zMS} {x : Int32} (g0 : rng x (cK C)) (n1 : ¬ (¬ C 21 (nN x) = 0)) : o_closes C x = ((-2000000003), C) := by unfold o_closes; rw [gd_t g0, gd_f n1]
noncomputable def o_holds (C : zMS) (x : Int32) (y : Int32) (f : Int32) (t : Int32) : Int32 × zMS := gd (rng x (cK C)) (-2000000001) C (gd (rng y 8) (-2000000001) C (gd (¬ f < 0 ∧ f ≤ t ∧ t ≤ nI 400) (-2000000002) C (gd (¬ C 21 (nN x) = 0 ∧ cH C < 30) (-2000000003) C ((nI (zcnt (fun p => ¬ cHS (up2 (up2 (up2 (up2 (up2 C 23 (cH C) x) 24 (cH C) y) 25 (cH C) f) 26 (cH C) t) 27 0 (nI (cH C + 1))) p &&& (nI 1 <<< (x &&& 31)) = 0) (cP (up2 (up2 (up2 (up2 (up2 C 23 (cH C) x) 24 (cH C) y) 25 (cH C) f) 26 (cH C) t) 27 0 (nI (cH C + 1))))), up2 (up2 (up2 (up2 (up2 C 23 (cH C) x) 24 (cH C) y) 25 (cH C) f) 26 (cH C) t) 27 0 (nI (cH C + 1)))))))
theorem o_holds_ok {C : zMS} {x : Int32} {y : Int32} {f : Int32} {t : Int32} (g0 : rng x (cK C)) (g1 : rng y 8) (g2 : ¬ f < 0 ∧ f ≤ t ∧ t ≤ nI 400) (g3 : ¬ C 21 (nN x) = 0 ∧ cH C < 30) : o_holds C x y f t = (nI (zcnt (fun p => ¬ cHS (up2 (up2 (up2 (up2 (up2 C 23 (cH C) x) 24 (cH C) y) 25 (cH C) f) 26 (cH C) t) 27 0 (nI (cH C + 1))) p &&& (nI 1 <<< (x &&& 31)) = 0) (cP (up2 (up2 (up2 (up2 (up2 C 23 (cH C) x) 24 (cH C) y) 25 (cH C) f) 26 (cH C) t) 27 0 (nI (cH C + 1))))), up2 (up2 (up2 (up2 (up2 C 23 (cH C) x) 24 (cH C) y) 25 (cH C) f) 26 (cH C) t) 27 0 (nI (cH C + 1))) := by unfold o_holds; rw [gd_t g0, gd_t g1, gd_t g2, gd_t g3]
theorem o_holds_0 {C : zMS} {x : Int32} {y : Int32} {f : Int32} {t : Int32} (n0 : ¬ (rng x (cK C))) : o_holds C x y f t = ((-2000000001), C) := by unfold o_holds; rw [gd_f n0]
theorem o_holds_1 {C : zMS} {x : Int32} {y : Int32} {f : Int32} {t : Int32} (g0 : rng x (cK C)) (n1 : ¬ (rng y 8)) : o_holds C x y f t = ((-2000000001), C) := by unfold o_holds; rw [gd_t g0, gd_f n1]
theorem o_holds_2 {C : zMS} {x : Int32} {y : Int32} {f : Int32} {t : Int32} (g0 : rng x (cK C)) (g1 : rng y 8) (n2 : ¬ (¬ f < 0 ∧ f ≤ t ∧ t ≤ nI 400)) : o_holds C x y f t = ((-2000000002), C) := by unfold o_holds; rw [gd_t g0, gd_t g1, gd_f n2]
theorem o_holds_3 {C : zMS} {x : Int32} {y : Int32} {f : Int32} {t : Int32} (g0 : rng x (cK C)) (g1 : rng y 8) (g2 : ¬ f < 0 ∧ f ≤ t ∧ t ≤ nI 400) (n3 : ¬ (¬ C 21 (nN x) = 0 ∧ cH C < 30)) : o_holds C x y f t = ((-2000000003), C) := by unfold o_holds; rw [gd_t g0, gd_t g1, gd_t g2, gd_f n3]
noncomputable def o_strikes (C : zMS) (x : Int32) (y : Int32) : Int32 × zMS := gd (rng x (cK C)) (-2000000001) C (gd (rng y (cP C)) (-2000000001) C (gd (cMay C (nN x) (nN y)) (-2000000003) C ((nI (cCF (bvN (stC C (nN y)) (nN y) (cM (stC C (nN y)))) (nN y)), bvN (stC C (nN y)) (nN y) (cM (stC C (nN y)))))))
theorem o_strikes_ok {C : zMS} {x : Int32} {y : Int32} (g0 : rng x (cK C)) (g1 : rng y (cP C)) (g2 : cMay C (nN x) (nN y)) : o_strikes C x y = (nI (cCF (bvN (stC C (nN y)) (nN y) (cM (stC C (nN y)))) (nN y)), bvN (stC C (nN y)) (nN y) (cM (stC C (nN y)))) := by unfold o_strikes; rw [gd_t g0, gd_t g1, gd_t g2]
theorem o_strikes_0 {C : zMS} {x : Int32} {y : Int32} (n0 : ¬ (rng x (cK C))) : o_strikes C x y = ((-2000000001), C) := by unfold o_strikes; rw [gd_f n0]
theorem o_strikes_1 {C : zMS} {x : Int32} {y : Int32} (g0 : rng x (cK C)) (n1 : ¬ (rng y (cP C))) : o_strikes C x y = ((-2000000001), C) := by unfold o_strikes; rw [gd_t g0, gd_f n1]
theorem o_strikes_2 {C : zMS} {x : Int32} {y : Int32} (g0 : rng x (cK C)) (g1 : rng y (cP C)) (n2 : ¬ (cMay C (nN x) (nN y))) : o_strikes C x y = ((-2000000003), C) := by unfold o_strikes; rw [gd_t g0, gd_t g1, gd_f n2]
noncomputable def s_state (C : zMS) (x : Int32) : Int32 := ifI (rng x (cP C)) (nI (cSt C (nN x))) (-2000000001)
theorem s_state_ok {C : zMS} {x : Int32} (g0 : rng x (cP C)) : s_state C x = nI (cSt C (nN x)) := by unfold s_state; rw [ifI_t g0]
theorem s_state_0 {C : zMS} {x : Int32} (n0 : ¬ (rng x (cP C))) : s_state C x = (-2000000001) := by unfold s_state; rw [ifI_f n0]
noncomputable def s_isTrue (C : zMS) (x : Int32) : Int32 := ifI (rng x (cP C)) (bI (cTB C (nN x))) (-2000000001)
theorem s_isTrue_ok {C : zMS} {x : Int32} (g0 : rng x (cP C)) : s_isTrue C x = bI (cTB C (nN x)) := by unfold s_isTrue; rw [ifI_t g0]
theorem s_isTrue_0 {C : zMS} {x : Int32} (n0 : ¬ (rng x (cP C))) : s_isTrue C x = (-2000000001) := by unfold s_isTrue; rw [ifI_f n0]
noncomputable def s_text (C : zMS) (x : Int32) : Int32 := ifI (rng x (cP C)) (ifI (¬ C 17 (nN x) = 0) (C 8 (nN x)) (-1)) (-2000000001)
theorem s_text_ok {C : zMS} {x : Int32} (g0 : rng x (cP C)) : s_text C x = ifI (¬ C 17 (nN x) = 0) (C 8 (nN x)) (-1) := by unfold s_text; rw [ifI_t g0]
theorem s_text_0 {C : zMS} {x : Int32} (n0 : ¬ (rng x (cP C))) : s_text C x = (-2000000001) := by unfold s_text; rw [ifI_f n0]
noncomputable def s_mark (C : zMS) (x : Int32) : Int32 := ifI (rng x (cP C)) (C 9 (nN x)) (-2000000001)
theorem s_mark_ok {C : zMS} {x : Int32} (g0 : rng x (cP C)) : s_mark C x = C 9 (nN x) := by unfold s_mark; rw [ifI_t g0]
theorem s_mark_0 {C : zMS} {x : Int32} (n0 : ¬ (rng x (cP C))) : s_mark C x = (-2000000001) := by unfold s_mark; rw [ifI_f n0]
noncomputable def s_reversal (C : zMS) (x : Int32) : Int32 := ifI (rng x (cP C)) (C 12 (nN x)) (-2000000001)
theorem s_reversal_ok {C : zMS} {x : Int32} (g0 : rng x (cP C)) : s_reversal C x = C 12 (nN x) := by unfold s_reversal; rw [ifI_t g0]
theorem s_reversal_0 {C : zMS} {x : Int32} (n0 : ¬ (rng x (cP C))) : s_reversal C x = (-2000000001) := by unfold s_reversal; rw [ifI_f n0]
noncomputable def s_proves (C : zMS) (x : Int32) (y : Int32) : Int32 := ifI (rng x (cP C)) (ifI (rng y 10000) (bI (fMk (C 1) (C 2) (nMk (nMk (nI 1) (C 7 (nN x))) y) (cD C) = C 9 (nN x))) (-2000000002)) (-2000000001)
theorem s_proves_ok {C : zMS} {x : Int32} {y : Int32} (g0 : rng x (cP C)) (g1 : rng y 10000) : s_proves C x y = bI (fMk (C 1) (C 2) (nMk (nMk (nI 1) (C 7 (nN x))) y) (cD C) = C 9 (nN x)) := by unfold s_proves; rw [ifI_t g0, ifI_t g1]
theorem s_proves_0 {C : zMS} {x : Int32} {y : Int32} (n0 : ¬ (rng x (cP C))) : s_proves C x y = (-2000000001) := by unfold s_proves; rw [ifI_f n0]
theorem s_proves_1 {C : zMS} {x : Int32} {y : Int32} (g0 : rng x (cP C)) (n1 : ¬ (rng y 10000)) : s_proves C x y = (-2000000002) := by unfold s_proves; rw [ifI_t g0, ifI_f n1]
noncomputable def s_proven (C : zMS) (x : Int32) (y : Int32) : Int32 := ifI (rng x (cP C)) (ifI (rng y 8) (ifI (¬ C 14 (nN x) = 0) (cSum C 16 (nN x) y) (nI 0)) (-2000000001)) (-2000000001)
theorem s_proven_ok {C : zMS} {x : Int32} {y : Int32} (g0 : rng x (cP C)) (g1 : rng y 8) : s_proven C x y = ifI (¬ C 14 (nN x) = 0) (cSum C 16 (nN x) y) (nI 0) := by unfold s_proven; rw [ifI_t g0, ifI_t g1]
theorem s_proven_0 {C : zMS} {x : Int32} {y : Int32} (n0 : ¬ (rng x (cP C))) : s_proven C x y = (-2000000001) := by unfold s_proven; rw [ifI_f n0]
theorem s_proven_1 {C : zMS} {x : Int32} {y : Int32} (g0 : rng x (cP C)) (n1 : ¬ (rng y 8)) : s_proven C x y = (-2000000001) := by unfold s_proven; rw [ifI_t g0, ifI_f n1]
noncomputable def s_balance (C : zMS) (x : Int32) (y : Int32) : Int32 := ifI (rng x 8) (ifI (rng y (cT C + 1)) (zsum (fun p => cSum C 16 p x) (cUE C y)) (-2000000002)) (-2000000001)
theorem s_balance_ok {C : zMS} {x : Int32} {y : Int32} (g0 : rng x 8) (g1 : rng y (cT C + 1)) : s_balance C x y = zsum (fun p => cSum C 16 p x) (cUE C y) := by unfold s_balance; rw [ifI_t g0, ifI_t g1]
theorem s_balance_0 {C : zMS} {x : Int32} {y : Int32} (n0 : ¬ (rng x 8)) : s_balance C x y = (-2000000001) := by unfold s_balance; rw [ifI_f n0]
theorem s_balance_1 {C : zMS} {x : Int32} {y : Int32} (g0 : rng x 8) (n1 : ¬ (rng y (cT C + 1))) : s_balance C x y = (-2000000002) := by unfold s_balance; rw [ifI_t g0, ifI_f n1]
noncomputable def s_byPages (C : zMS) (x : Int32) (y : Int32) : Int32 := ifI (rng x 8) (ifI (rng y (cT C + 1)) (ifI (∀ e, cUp C y e → ∀ p, p < e → ¬ cSt C p = 1) (zsum (fun p => ifI (cSt C p = 2) (cSum C 16 p x) (cSum C 18 p x)) (cUE C y)) (-2000000003)) (-2000000002)) (-2000000001)
theorem s_byPages_ok {C : zMS} {x : Int32} {y : Int32} (g0 : rng x 8) (g1 : rng y (cT C + 1)) (g2 : ∀ e, cUp C y e → ∀ p, p < e → ¬ cSt C p = 1) : s_byPages C x y = zsum (fun p => ifI (cSt C p = 2) (cSum C 16 p x) (cSum C 18 p x)) (cUE C y) := by unfold s_byPages; rw [ifI_t g0, ifI_t g1, ifI_t g2]
theorem s_byPages_0 {C : zMS} {x : Int32} {y : Int32} (n0 : ¬ (rng x 8)) : s_byPages C x y = (-2000000001) := by unfold s_byPages; rw [ifI_f n0]
theorem s_byPages_1 {C : zMS} {x : Int32} {y : Int32} (g0 : rng x 8) (n1 : ¬ (rng y (cT C + 1))) : s_byPages C x y = (-2000000002) := by unfold s_byPages; rw [ifI_t g0, ifI_f n1]
theorem s_byPages_2 {C : zMS} {x : Int32} {y : Int32} (g0 : rng x 8) (g1 : rng y (cT C + 1)) (n2 : ¬ (∀ e, cUp C y e → ∀ p, p < e → ¬ cSt C p = 1)) : s_byPages C x y = (-2000000003) := by unfold s_byPages; rw [ifI_t g0, ifI_t g1, ifI_f n2]
noncomputable def s_byCopies (C : zMS) (x : Int32) (y : Int32) : Int32 := ifI (rng x 8) (ifI (rng y (cT C + 1)) (ifI (∀ e, cUp C y e → ∀ p, p < e → cTT C p) (zsum (fun p => cSum C 16 p x) (cUE C y)) (-2000000003)) (-2000000002)) (-2000000001)
theorem s_byCopies_ok {C : zMS} {x : Int32} {y : Int32} (g0 : rng x 8) (g1 : rng y (cT C + 1)) (g2 : ∀ e, cUp C y e → ∀ p, p < e → cTT C p) : s_byCopies C x y = zsum (fun p => cSum C 16 p x) (cUE C y) := by unfold s_byCopies; rw [ifI_t g0, ifI_t g1, ifI_t g2]
theorem s_byCopies_0 {C : zMS} {x : Int32} {y : Int32} (n0 : ¬ (rng x 8)) : s_byCopies C x y = (-2000000001) := by unfold s_byCopies; rw [ifI_f n0]
theorem s_byCopies_1 {C : zMS} {x : Int32} {y : Int32} (g0 : rng x 8) (n1 : ¬ (rng y (cT C + 1))) : s_byCopies C x y = (-2000000002) := by unfold s_byCopies; rw [ifI_t g0, ifI_f n1]
theorem s_byCopies_2 {C : zMS} {x : Int32} {y : Int32} (g0 : rng x 8) (g1 : rng y (cT C + 1)) (n2 : ¬ (∀ e, cUp C y e → ∀ p, p < e → cTT C p)) : s_byCopies C x y = (-2000000003) := by unfold s_byCopies; rw [ifI_t g0, ifI_t g1, ifI_f n2]
noncomputable def s_size (C : zMS) (x : Int32) : Int32 := ifI (cCx C x) (nI (cE C (nN x) - cF C (nN x))) (-2000000001)
theorem s_size_ok {C : zMS} {x : Int32} (g0 : cCx C x) : s_size C x = nI (cE C (nN x) - cF C (nN x)) := by unfold s_size; rw [ifI_t g0]
theorem s_size_0 {C : zMS} {x : Int32} (n0 : ¬ (cCx C x)) : s_size C x = (-2000000001) := by unfold s_size; rw [ifI_f n0]
noncomputable def s_inVault (C : zMS) (x : Int32) : Int32 := ifI (cCx C x) (C (43 + 8 * nN x) 0) (-2000000001)
theorem s_inVault_ok {C : zMS} {x : Int32} (g0 : cCx C x) : s_inVault C x = C (43 + 8 * nN x) 0 := by unfold s_inVault; rw [ifI_t g0]
theorem s_inVault_0 {C : zMS} {x : Int32} (n0 : ¬ (cCx C x)) : s_inVault C x = (-2000000001) := by unfold s_inVault; rw [ifI_f n0]
noncomputable def s_stands (C : zMS) (x : Int32) (y : Int32) : Int32 := ifI (cCx C x) (ifI (cIn C (nN x) y) (C (44 + 8 * nN x) (nN y)) (-2000000001)) (-2000000001)
theorem s_stands_ok {C : zMS} {x : Int32} {y : Int32} (g0 : cCx C x) (g1 : cIn C (nN x) y) : s_stands C x y = C (44 + 8 * nN x) (nN y) := by unfold s_stands; rw [ifI_t g0, ifI_t g1]
theorem s_stands_0 {C : zMS} {x : Int32} {y : Int32} (n0 : ¬ (cCx C x)) : s_stands C x y = (-2000000001) := by unfold s_stands; rw [ifI_f n0]
theorem s_stands_1 {C : zMS} {x : Int32} {y : Int32} (g0 : cCx C x) (n1 : ¬ (cIn C (nN x) y)) : s_stands C x y = (-2000000001) := by unfold s_stands; rw [ifI_t g0, ifI_f n1]
noncomputable def s_copiesOf (C : zMS) (x : Int32) : Int32 := ifI (rng x (cP C)) (nI (cCF C (nN x))) (-2000000001)
theorem s_copiesOf_ok {C : zMS} {x : Int32} (g0 : rng x (cP C)) : s_copiesOf C x = nI (cCF C (nN x)) := by unfold s_copiesOf; rw [ifI_t g0]
theorem s_copiesOf_0 {C : zMS} {x : Int32} (n0 : ¬ (rng x (cP C))) : s_copiesOf C x = (-2000000001) := by unfold s_copiesOf; rw [ifI_f n0]
noncomputable def s_canRestore (C : zMS) (x : Int32) : Int32 := ifI (cCx C x) (bI (cWh C (nN x))) (-2000000001)
theorem s_canRestore_ok {C : zMS} {x : Int32} (g0 : cCx C x) : s_canRestore C x = bI (cWh C (nN x)) := by unfold s_canRestore; rw [ifI_t g0]
theorem s_canRestore_0 {C : zMS} {x : Int32} (n0 : ¬ (cCx C x)) : s_canRestore C x = (-2000000001) := by unfold s_canRestore; rw [ifI_f n0]
noncomputable def s_audit (C : zMS) (x : Int32) : Int32 := ifI (cCx C x) (nI (zcnt (fun i => ¬ Lk C (44 + 8 * nN x) (45 + 8 * nN x) 17 18 (cF C (nN x) + i)) (cE C (nN x) - cF C (nN x)))) (-2000000001)
theorem s_audit_ok {C : zMS} {x : Int32} (g0 : cCx C x) : s_audit C x = nI (zcnt (fun i => ¬ Lk C (44 + 8 * nN x) (45 + 8 * nN x) 17 18 (cF C (nN x) + i)) (cE C (nN x) - cF C (nN x))) := by unfold s_audit; rw [ifI_t g0]
theorem s_audit_0 {C : zMS} {x : Int32} (n0 : ¬ (cCx C x)) : s_audit C x = (-2000000001) := by unfold s_audit; rw [ifI_f n0]
noncomputable def s_isOpen (C : zMS) (x : Int32) : Int32 := ifI (rng x (cK C)) (C 21 (nN x)) (-2000000001)
theorem s_isOpen_ok {C : zMS} {x : Int32} (g0 : rng x (cK C)) : s_isOpen C x = C 21 (nN x) := by unfold s_isOpen; rw [ifI_t g0]
theorem s_isOpen_0 {C : zMS} {x : Int32} (n0 : ¬ (rng x (cK C))) : s_isOpen C x = (-2000000001) := by unfold s_isOpen; rw [ifI_f n0]
noncomputable def s_holders (C : zMS) (x : Int32) : Int32 := ifI (rng x (cP C)) (cHS C (nN x)) (-2000000001)
theorem s_holders_ok {C : zMS} {x : Int32} (g0 : rng x (cP C)) : s_holders C x = cHS C (nN x) := by unfold s_holders; rw [ifI_t g0]
theorem s_holders_0 {C : zMS} {x : Int32} (n0 : ¬ (rng x (cP C))) : s_holders C x = (-2000000001) := by unfold s_holders; rw [ifI_f n0]
noncomputable def s_canStrike (C : zMS) (x : Int32) (y : Int32) : Int32 := ifI (rng x (cK C)) (ifI (rng y (cP C)) (bI (cMay C (nN x) (nN y))) (-2000000001)) (-2000000001)
theorem s_canStrike_ok {C : zMS} {x : Int32} {y : Int32} (g0 : rng x (cK C)) (g1 : rng y (cP C)) : s_canStrike C x y = bI (cMay C (nN x) (nN y)) := by unfold s_canStrike; rw [ifI_t g0, ifI_t g1]
theorem s_canStrike_0 {C : zMS} {x : Int32} {y : Int32} (n0 : ¬ (rng x (cK C))) : s_canStrike C x y = (-2000000001) := by unfold s_canStrike; rw [ifI_f n0]
theorem s_canStrike_1 {C : zMS} {x : Int32} {y : Int32} (g0 : rng x (cK C)) (n1 : ¬ (rng y (cP C))) : s_canStrike C x y = (-2000000001) := by unfold s_canStrike; rw [ifI_t g0, ifI_f n1]
