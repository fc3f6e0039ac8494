/-! what the class's methods do to its numbers -/
def Lk (C : zMS) (f r f2 r2 j : Nat) : Prop := C f j = C f2 j ∧ ∀ l, l < 4 → C r (j * 4 + l) = C r2 (j * 4 + l)
theorem i_rng {x : Int32} {n : Nat} (hn : n < 2 ^ 31) (h0 : ¬ x < 0) (h1 : ¬ nI n ≤ x) : rng x n := by
  obtain ⟨j, hj, rfl⟩ := nI_of h0
  exact ⟨j, Nat.lt_of_not_le (fun h => h1 ((nI_leI (by omega) hj).mpr h)), rfl⟩
def cTB (C : zMS) (j : Nat) : Prop := Lk C 17 18 15 16 j
def cTK (C : zMS) (k j : Nat) : Prop := Lk C (44 + 8 * k) (45 + 8 * k) 15 16 j
noncomputable def cSt (C : zMS) (j : Nat) : Nat := ifN (¬ C 14 j = 0) 2 (ifN (¬ C 17 j = 0) 0 1)
def cHL (C : zMS) (j : Nat) (x : Int32) : Prop := ∃ l, l < cL C j ∧ C 11 (j * 4 + l) = x
noncomputable def cSum (C : zMS) (r j : Nat) (x : Int32) : Int32 := zsum (fun l => ifI (C 11 (j * 4 + l) = x) (C r (j * 4 + l)) (nI 0)) (cL C j)
def cUp (C : zMS) (y : Int32) (e : Nat) : Prop := e ≤ cP C ∧ (∀ p, p < e → ¬ y < C 7 p) ∧ (e < cP C → y < C 7 e)
def blL (C : zMS) (r j : Nat) : Nat → zMS
  | 0 => C
  | l + 1 => up2 (blL C r j l) r (j * 4 + l) (nI 0)
def blC (C : zMS) (f r j : Nat) : zMS := blL (up2 C f j (nI 0)) r j 4
def tkL (C : zMS) (r r2 j : Nat) : Nat → zMS
  | 0 => C
  | l + 1 => up2 (tkL C r r2 j l) r (j * 4 + l) (C r2 (j * 4 + l))
def tkC (C : zMS) (f r f2 r2 j : Nat) : zMS := tkL (up2 C f j (C f2 j)) r r2 j 4
def flL (C : zMS) (r km j : Nat) : Nat → zMS
  | 0 => C
  | l + 1 => up2 (flL C r km j l) r (j * 4 + l) (C km l)
def flC (C : zMS) (f r km n j : Nat) : zMS := flL (up2 C f j (nI 1)) r km j n
theorem blL_k (C : zMS) (r j : Nat) {k : Nat} (h : k ≠ r) : ∀ l, blL C r j l k = C k
  | 0 => rfl
  | l + 1 => by rw [blL, up2_k h, blL_k C r j h l]
theorem tkL_k (C : zMS) (r r2 j : Nat) {k : Nat} (h : k ≠ r) : ∀ l, tkL C r r2 j l k = C k
  | 0 => rfl
  | l + 1 => by rw [tkL, up2_k h, tkL_k C r r2 j h l]
theorem flL_k (C : zMS) (r km j : Nat) {k : Nat} (h : k ≠ r) : ∀ l, flL C r km j l k = C k
  | 0 => rfl
  | l + 1 => by rw [flL, up2_k h, flL_k C r km j h l]
theorem blC_k {C : zMS} {f r j k : Nat} (h : k ≠ f ∧ k ≠ r) : blC C f r j k = C k := by rw [blC, blL_k _ _ _ h.2, up2_k h.1]
theorem tkC_k {C : zMS} {f r f2 r2 j k : Nat} (h : k ≠ f ∧ k ≠ r) : tkC C f r f2 r2 j k = C k := by rw [tkC, tkL_k _ _ _ _ h.2, up2_k h.1]
theorem flC_k {C : zMS} {f r km n j k : Nat} (h : k ≠ f ∧ k ≠ r) : flC C f r km n j k = C k := by rw [flC, flL_k _ _ _ _ h.2, up2_k h.1]
/-- appending a page: p its number, n its legs, from the rows ka, km -/
def acL (C : zMS) (ka p : Nat) : Nat → zMS
  | 0 => C
  | l + 1 => up2 (acL C ka p l) 11 (p * 4 + l) (C ka l)
theorem acL_k (C : zMS) (ka p : Nat) {k : Nat} (h : k ≠ 11) : ∀ l, acL C ka p l k = C k
  | 0 => rfl
  | l + 1 => by rw [acL, up2_k h, acL_k C ka p h l]
def ap1 (C : zMS) (p ka km n : Nat) (x y : Int32) : zMS := up2 (up2 (up2 (up2 C 7 p y) 8 p x) 9 p (fMk (C ka) (C km) (nMk (nMk (nI 1) y) x) n)) 10 p (nI n)
def ap2 (C : zMS) (p ka km n : Nat) (x y : Int32) : zMS := up2 (acL (ap1 C p ka km n x y) ka p n) 12 p (-1)
def apC (C : zMS) (p ka km n : Nat) (x y : Int32) : zMS := up2 (flC (flC (ap2 C p ka km n x y) 15 16 km n p) 17 18 km n p) 19 0 (nI (p + 1))
theorem apC_k {C : zMS} {p ka km n : Nat} {x y : Int32} {k : Nat} (h : (k < 7 ∨ 12 < k) ∧ (k < 15 ∨ 19 < k)) : apC C p ka km n x y k = C k := by
  rw [apC, up2_k (by omega), flC_k ⟨by omega, by omega⟩, flC_k ⟨by omega, by omega⟩, ap2, up2_k (by omega), acL_k _ _ _ (by omega), ap1, up2_k (by omega), up2_k (by omega), up2_k (by omega), up2_k (by omega)]
/-- the row of opposite legs of page j -/
def opL (C : zMS) (j : Nat) : Nat → zMS
  | 0 => up2 C 6 0 (nI 0)
  | l + 1 => up2 (up2 (up2 (opL C j l) 4 l (C 11 (j * 4 + l))) 5 l (-(C 16 (j * 4 + l)))) 6 0 (nI (l + 1))
theorem opL_k (C : zMS) (j : Nat) {k : Nat} (h : k ≠ 4 ∧ k ≠ 5 ∧ k ≠ 6) : ∀ l, opL C j l k = C k
  | 0 => up2_k h.2.2
  | l + 1 => by rw [opL, up2_k h.2.2, up2_k h.2.1, up2_k h.1, opL_k C j h l]
theorem opL_6 (C : zMS) (j : Nat) : ∀ l, opL C j l 6 0 = nI l
  | 0 => up2_s
  | l + 1 => by rw [opL, up2_s]
def rvC (C : zMS) (j : Nat) (y : Int32) : zMS := up2 (up2 (apC (opL C j (cL C j)) (cP C) 4 5 (cL C j) (C 8 j) y) 13 (cP C) (nI 1)) 12 j (nI (cP C))
def cCx (C : zMS) (x : Int32) : Prop := ∃ j, x = nI j ∧ j < cM C ∧ C 28 j = 1
def cBs (C : zMS) (d : Nat) : Int32 := C (40 + 8 * d) 0
def CJ (C : zMS) : Prop := (∀ c, c < cM C → ∃ L, chN (cBs C) c = c :: L ∧ isCh (cM C) (cBs C) (c :: L)) ∧ (∀ c, c < cM C → cF C c ≤ cE C c ∧ cE C c ≤ cP C)
def cWh (C : zMS) (c : Nat) : Prop := ∀ d, d ∈ chN (cBs C) c → ¬ C (43 + 8 * d) 0 = 0
/-- loops of the vault and the copies -/
noncomputable def bkN (C : zMS) (k : Nat) : Nat → zMS
  | 0 => C
  | i + 1 => @ite _ (C 14 (cF C k + i) = 0) (Classical.propDecidable _) (bkN C k i) (blC (bkN C k i) (44 + 8 * k) (45 + 8 * k) (cF C k + i))
theorem bkN_k (C : zMS) (k : Nat) {f : Nat} (h : f ≠ 44 + 8 * k ∧ f ≠ 45 + 8 * k) : ∀ i, bkN C k i f = C f
  | 0 => rfl
  | i + 1 => by
    rw [bkN]
    by_cases q : C 14 (cF C k + i) = 0
    · rw [if_pos q, bkN_k C k h i]
    · rw [if_neg q, blC_k h, bkN_k C k h i]
theorem bkN_n {C : zMS} {k i : Nat} (h : C 14 (cF C k + i) = 0) : bkN C k i = bkN C k (i + 1) := by rw [bkN, if_pos h]
theorem bkN_y {C : zMS} {k i : Nat} (h : ¬ C 14 (cF C k + i) = 0) : blC (bkN C k i) (44 + 8 * k) (45 + 8 * k) (cF C k + i) = bkN C k (i + 1) := by rw [bkN, if_neg h]
def gbC (C : zMS) (k j : Nat) : Prop := C 14 j = 0 ∧ ¬ cTB C j ∧ cTK C k j
noncomputable def gb1 (C : zMS) (k j : Nat) : zMS := @ite _ (gbC C k j) (Classical.propDecidable _) (tkC C 17 18 (44 + 8 * k) (45 + 8 * k) j) C
noncomputable def gbN (C : zMS) (k : Nat) : Nat → zMS
  | 0 => C
  | i + 1 => gb1 (gbN C k i) k (cF C k + i)
noncomputable def gbK (C : zMS) (k : Nat) : Nat → Nat
  | 0 => 0
  | i + 1 => gbK C k i + ifN (gbC (gbN C k i) k (cF C k + i)) 1 0
theorem gb1_y {C : zMS} {k j : Nat} (h : gbC C k j) : gb1 C k j = tkC C 17 18 (44 + 8 * k) (45 + 8 * k) j := if_pos h
theorem gb1_n {C : zMS} {k j : Nat} (h : ¬ gbC C k j) : gb1 C k j = C := if_neg h
theorem gbN_k (C : zMS) (k : Nat) {f : Nat} (h : f ≠ 17 ∧ f ≠ 18) : ∀ i, gbN C k i f = C f
  | 0 => rfl
  | i + 1 => by
    rw [gbN]
    by_cases q : gbC (gbN C k i) k (cF C k + i)
    · rw [gb1_y q, tkC_k h, gbN_k C k h i]
    · rw [gb1_n q, gbN_k C k h i]
noncomputable def gbA : List Nat → zMS → zMS
  | [], C => C
  | c :: L, C => gbA L (gbN C c (cE C c - cF C c))
noncomputable def gbB : List Nat → zMS → Nat
  | [], _ => 0
  | c :: L, C => gbK C c (cE C c - cF C c) + gbB L (gbN C c (cE C c - cF C c))
/-- a page struck in the vault's copies -/
noncomputable def bvN (C : zMS) (j : Nat) : Nat → zMS
  | 0 => C
  | i + 1 => @ite _ (C 28 i = 1 ∧ ¬ C (43 + 8 * i) 0 = 0) (Classical.propDecidable _) (blC (bvN C j i) (44 + 8 * i) (45 + 8 * i) j) (bvN C j i)
theorem bvN_k (C : zMS) (j : Nat) {f : Nat} (h : ∀ k, f ≠ 44 + 8 * k ∧ f ≠ 45 + 8 * k) : ∀ i, bvN C j i f = C f
  | 0 => rfl
  | i + 1 => by
    rw [bvN]
    by_cases q : C 28 i = 1 ∧ ¬ C (43 + 8 * i) 0 = 0
    · rw [if_pos q, blC_k (h i), bvN_k C j h i]
    · rw [if_neg q, bvN_k C j h i]
theorem bvN_y {C : zMS} {j i : Nat} (h : C 28 i = 1 ∧ ¬ C (43 + 8 * i) 0 = 0) : blC (bvN C j i) (44 + 8 * i) (45 + 8 * i) j = bvN C j (i + 1) := by rw [bvN, if_pos h]
theorem bvN_n {C : zMS} {j i : Nat} (h : ¬ (C 28 i = 1 ∧ ¬ C (43 + 8 * i) 0 = 0)) : bvN C j i = bvN C j (i + 1) := by rw [bvN, if_neg h]
/-- the court -/
def cSp (C : zMS) (j h : Nat) : Prop := ¬ C 21 (cHc C h) = 0 ∧ (C 25 h ≤ C 7 j ∧ C 7 j ≤ C 26 h) ∧ cHL C j (C 24 h)
noncomputable def cHb (C : zMS) (j : Nat) : Nat → Int32
  | 0 => nI 0
  | h + 1 => @ite _ (cSp C j h) (Classical.propDecidable _) (cHb C j h ||| (nI 1 <<< (nI (cHc C h) &&& 31))) (cHb C j h)
noncomputable def cHS (C : zMS) (j : Nat) : Int32 := cHb C j (cH C)
theorem cHb_y {C : zMS} {j h : Nat} (q : cSp C j h) : cHb C j h ||| (nI 1 <<< (nI (cHc C h) &&& 31)) = cHb C j (h + 1) := by rw [cHb, if_pos q]
theorem cHb_n {C : zMS} {j h : Nat} (q : ¬ cSp C j h) : cHb C j h = cHb C j (h + 1) := by rw [cHb, if_neg q]
def cMay (C : zMS) (c j : Nat) : Prop := ¬ C 21 c = 0 ∧ cTB C j ∧ cHS C j &&& ((nI 1 <<< (nI c &&& 31)) ^^^ (-1)) = 0
def cAny (C : zMS) (k : Nat) : Prop := ∃ i, i < cE C k - cF C k ∧ ¬ C (44 + 8 * k) (cF C k + i) = 0 ∧ ¬ cHS C (cF C k + i) = 0
def cHT (C : zMS) (j : Nat) (x : Int32) : Prop := ∃ k, k < cM C ∧ C 28 k = 1 ∧ (¬ C (43 + 8 * k) 0 = 0 ∨ ¬ x = 0) ∧ cTK C k j
noncomputable def cCF (C : zMS) (j : Nat) : Nat := zcnt (fun k => C 28 k = 1 ∧ ¬ C (44 + 8 * k) j = 0) (cM C)
/-- states alike in what CI looks at -/
theorem CI_cg {C C1 : zMS} (h : CI C) (e : ∀ f, f = 0 ∨ f = 3 ∨ f = 6 ∨ f = 10 ∨ (12 < f ∧ f < 16) ∨ f = 17 ∨ (18 < f ∧ f < 24) ∨ f = 27 ∨ f = 28 ∨ (40 < f ∧ f % 8 ≠ 5 ∧ f % 8 ≠ 0) → C1 f = C f) : CI C1 := by
  unfold CI cP cD cOp cM cK cH cT cL cHc cF cE at h ⊢
  have e41 : ∀ k, C1 (41 + 8 * k) = C (41 + 8 * k) := fun k => e _ (by omega)
  have e42 : ∀ k, C1 (42 + 8 * k) = C (42 + 8 * k) := fun k => e _ (by omega)
  have e43 : ∀ k, C1 (43 + 8 * k) = C (43 + 8 * k) := fun k => e _ (by omega)
  have e44 : ∀ k, C1 (44 + 8 * k) = C (44 + 8 * k) := fun k => e _ (by omega)
  rw [e 19 (by omega), e 3 (by omega), e 6 (by omega), e 20 (by omega), e 22 (by omega), e 27 (by omega), e 0 (by omega), e 10 (by omega), e 23 (by omega), e 13 (by omega), e 14 (by omega), e 15 (by omega), e 17 (by omega), e 21 (by omega), e 28 (by omega)]
  simp only [e41, e42, e43, e44]
  exact h
theorem CI_z {C : zMS} {f i : Nat} {x : Int32} (h : CI C) (hf : f = 13 ∨ f = 14 ∨ f = 15 ∨ f = 17 ∨ f = 21 ∨ (43 < f ∧ f % 8 = 4)) (hx : x = 0 ∨ x = 1) : CI (up2 C f i x) := by
  have e : ∀ f2 j, (C f2 j = 0 ∨ C f2 j = 1) → (up2 C f i x f2 j = 0 ∨ up2 C f i x f2 j = 1) := by
    intro f2 j hh
    by_cases q : f2 = f
    · subst q
      rw [up2_a]
      by_cases q2 : j = i
      · rw [if_pos q2]; exact hx
      · rw [if_neg q2]; exact hh
    · rw [up2_k q]; exact hh
  unfold CI cP cD cOp cM cK cH cT cL cHc cF cE at h ⊢
  obtain ⟨h1, h2, h3, h4, h5, h6, h7, h8, h9, h10, h11, h12, h13, h14, h15, h16, h17, h18, h19⟩ := h
  have e41 : ∀ k, up2 C f i x (41 + 8 * k) = C (41 + 8 * k) := fun k => up2_k (by omega)
  have e42 : ∀ k, up2 C f i x (42 + 8 * k) = C (42 + 8 * k) := fun k => up2_k (by omega)
  have e43 : ∀ k, up2 C f i x (43 + 8 * k) = C (43 + 8 * k) := fun k => up2_k (by omega)
  rw [up2_k (show 19 ≠ f by omega), up2_k (show 3 ≠ f by omega), up2_k (show 6 ≠ f by omega), up2_k (show 20 ≠ f by omega), up2_k (show 22 ≠ f by omega), up2_k (show 27 ≠ f by omega), up2_k (show 0 ≠ f by omega), up2_k (show 10 ≠ f by omega), up2_k (show 23 ≠ f by omega), up2_k (show 28 ≠ f by omega)]
  simp only [e41, e42, e43]
  exact ⟨h1, h2, h3, h4, h5, h6, h7, h8, h9, h10, h11, fun p => e _ _ (h12 p), fun p => e _ _ (h13 p), fun p => e _ _ (h14 p), fun p => e _ _ (h15 p), fun p => e _ _ (h16 p), h17, fun k p => e _ _ (h18 k p), h19⟩
theorem CI_r {C : zMS} {f i : Nat} {x : Int32} (h : CI C) (hf : f = 1 ∨ f = 2 ∨ f = 4 ∨ f = 5 ∨ f = 7 ∨ f = 8 ∨ f = 9 ∨ f = 11 ∨ f = 12 ∨ f = 16 ∨ f = 18 ∨ f = 24 ∨ f = 25 ∨ f = 26 ∨ (44 < f ∧ f % 8 = 5)) : CI (up2 C f i x) := CI_cg h (fun f2 hf2 => up2_k (by omega))
theorem CI_blL {C : zMS} {r j : Nat} (h : CI C) (hr : r = 18 ∨ (44 < r ∧ r % 8 = 5)) : ∀ l, CI (blL C r j l)
  | 0 => h
  | l + 1 => CI_r (CI_blL h hr l) (by omega)
theorem CI_blC {C : zMS} {f r j : Nat} (h : CI C) (hf : f = 17 ∨ (43 < f ∧ f % 8 = 4)) (hr : r = 18 ∨ (44 < r ∧ r % 8 = 5)) : CI (blC C f r j) := CI_blL (CI_z h (by omega) (Or.inl rfl)) hr 4
theorem CI_tkL {C : zMS} {r r2 j : Nat} (h : CI C) (hr : r = 18 ∨ (44 < r ∧ r % 8 = 5)) : ∀ l, CI (tkL C r r2 j l)
  | 0 => h
  | l + 1 => CI_r (CI_tkL h hr l) (by omega)
theorem CI_tkC {C : zMS} {f r f2 r2 j : Nat} (h : CI C) (hf : f = 17 ∨ (43 < f ∧ f % 8 = 4)) (hr : r = 18 ∨ (44 < r ∧ r % 8 = 5)) (h01 : C f2 j = 0 ∨ C f2 j = 1) : CI (tkC C f r f2 r2 j) := CI_tkL (CI_z h (by omega) h01) hr 4
theorem CI_bkN {C : zMS} {k : Nat} (h : CI C) : ∀ i, CI (bkN C k i)
  | 0 => h
  | i + 1 => by
    rw [bkN]
    by_cases q : C 14 (cF C k + i) = 0
    · rw [if_pos q]; exact CI_bkN h i
    · rw [if_neg q]; exact CI_blC (CI_bkN h i) (by omega) (by omega)
theorem CI_gbN {C : zMS} {k : Nat} (h : CI C) : ∀ i, CI (gbN C k i)
  | 0 => h
  | i + 1 => by
    rw [gbN]
    by_cases q : gbC (gbN C k i) k (cF C k + i)
    · rw [gb1_y q]; exact CI_tkC (CI_gbN h i) (Or.inl rfl) (Or.inl rfl) (CI_z44 (CI_gbN h i) k _)
    · rw [gb1_n q]; exact CI_gbN h i
theorem CI_bvN {C : zMS} {j : Nat} (h : CI C) : ∀ i, CI (bvN C j i)
  | 0 => h
  | i + 1 => by
    rw [bvN]
    by_cases q : C 28 i = 1 ∧ ¬ C (43 + 8 * i) 0 = 0
    · rw [if_pos q]; exact CI_blC (CI_bvN h i) (by omega) (by omega)
    · rw [if_neg q]; exact CI_bvN h i
theorem gbN_y {C : zMS} {k i : Nat} (h : gbC (gbN C k i) k (cF C k + i)) : tkC (gbN C k i) 17 18 (44 + 8 * k) (45 + 8 * k) (cF C k + i) = gbN C k (i + 1) := by rw [gbN, gb1_y h]
theorem gbN_n {C : zMS} {k i : Nat} (h : ¬ gbC (gbN C k i) k (cF C k + i)) : gbN C k i = gbN C k (i + 1) := by rw [gbN, gb1_n h]
theorem gbK_y {C : zMS} {k i : Nat} (h : gbC (gbN C k i) k (cF C k + i)) : gbK C k i + 1 = gbK C k (i + 1) := by rw [gbK, ifN_t h]
theorem gbK_n {C : zMS} {k i : Nat} (h : ¬ gbC (gbN C k i) k (cF C k + i)) : gbK C k i = gbK C k (i + 1) := by rw [gbK, ifN_f h]; rfl
noncomputable def bkK (C : zMS) (k : Nat) : Nat → Nat
  | 0 => 0
  | i + 1 => bkK C k i + ifN (¬ C 14 (cF C k + i) = 0 ∧ ¬ bkN C k i (44 + 8 * k) (cF C k + i) = 0) 1 0
theorem bkK_y {C : zMS} {k i : Nat} (h : ¬ C 14 (cF C k + i) = 0 ∧ ¬ bkN C k i (44 + 8 * k) (cF C k + i) = 0) : bkK C k i + 1 = bkK C k (i + 1) := by rw [bkK, ifN_t h]
theorem bkK_n {C : zMS} {k i : Nat} (h : ¬ (¬ C 14 (cF C k + i) = 0 ∧ ¬ bkN C k i (44 + 8 * k) (cF C k + i) = 0)) : bkK C k i = bkK C k (i + 1) := by rw [bkK, ifN_f h]; rfl
def cIsB (C : zMS) (k : Nat) : Prop := ∃ j, j < cM C ∧ C 28 j = 1 ∧ C (40 + 8 * j) 0 = nI k
theorem CJ_b {C : zMS} (h : CJ C) {c : Nat} (hc : c < cM C) : C (40 + 8 * c) 0 = -1 ∨ ∃ d, d < cM C ∧ C (40 + 8 * c) 0 = nI d := by
  obtain ⟨L, _, _, h2, h3⟩ := h.1 c hc
  cases L with
  | nil => exact Or.inl h2
  | cons d L => exact Or.inr ⟨d, h3.1, h2⟩
theorem bO_iff {a : Nat → Nat} {C : zMS} {m c k : Nat} (h : CJ C) (hc : c < cM C) (hk : k < cM C) (hM : cM C ≤ 16) (hm : 4 * cM C ≤ m) (hn : ∀ i j, i < 30 + m → j < 30 + m → a i = a j → i = j) : bO a (C (40 + 8 * c) 0) = some (a (30 + 4 * k)) ↔ C (40 + 8 * c) 0 = nI k := by
  rcases CJ_b h hc with e | ⟨d, hd, e⟩
  · rw [e]
    constructor
    · intro q
      rw [bO, if_pos rfl] at q
      exact absurd q (by simp)
    · exact fun q => absurd q.symm (nI_nm1 (by omega))
  · rw [e, bO, if_neg (nI_nm1 (by omega)), nN_nI (by omega)]
    constructor
    · intro q
      have q2 := hn _ _ (by omega) (by omega) (Option.some.inj q)
      rw [show d = k by omega]
    · intro q
      rw [(nI_eq (by omega) (by omega)).mp q]
