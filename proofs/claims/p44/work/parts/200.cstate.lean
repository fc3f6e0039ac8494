/-! the class's state: its numbers by field; the copies in a pool -/
def up1 (C : zMS) (k : Nat) (f : Nat → Int32) : zMS := fun k' => if k' = k then f else C k'
theorem up1_s {C : zMS} {k : Nat} {f : Nat → Int32} : up1 C k f k = f := if_pos rfl
theorem up1_k {C : zMS} {k k' : Nat} {f : Nat → Int32} (h : k' ≠ k) : up1 C k f k' = C k' := if_neg h
def bO (a : Nat → Nat) (x : Int32) : Option Nat := if x = -1 then none else some (a (30 + 4 * nN x))
def wCo (a : Nat → Nat) (f : Nat → Int32) : Nat → Option Nat := fun j => if f j = 1 then some (a (30 + 4 * j)) else none
theorem wCo_1 {a : Nat → Nat} {f : Nat → Int32} {j : Nat} (h : f j = 1) : va_rf (wCo a f j) = .ref (a (30 + 4 * j)) := by rw [wCo, if_pos h]; rfl
theorem wCo_0 {a : Nat → Nat} {f : Nat → Int32} {j : Nat} (h : ¬ f j = 1) : va_rf (wCo a f j) = .null := by rw [wCo, if_neg h]; rfl
theorem wCo_up1 {a : Nat → Nat} {f : Nat → Int32} {j : Nat} : va_up (wCo a f) j (some (a (30 + 4 * j))) = wCo a (upd f j 1) := by
  funext i
  unfold va_up wCo upd
  by_cases h : i = j
  · subst h; simp
  · rw [if_neg h, if_neg h]
theorem wCo_up0 {a : Nat → Nat} {f : Nat → Int32} {j : Nat} : va_up (wCo a f) j none = wCo a (upd f j 0) := by
  funext i
  unfold va_up wCo upd
  by_cases h : i = j
  · subst h; simp
  · rw [if_neg h, if_neg h]
theorem bO_n {a : Nat → Nat} {x : Int32} (h : x = -1) : va_rf (bO a x) = .null := by rw [bO, if_pos h]; rfl
theorem bO_s {a : Nat → Nat} {d : Nat} (h : d < 2 ^ 31) : va_rf (bO a (nI d)) = .ref (a (30 + 4 * d)) := by rw [bO, if_neg (nI_nm1 h), nN_nI h]; rfl
def wFx (g : zG) (a : Nat → Nat) (C : zMS) : va_W := [(a 0, .inr (6, [.ref (a 1), .ref (a 2), .ref (a 3), .ref (a 4), .ref (a 5), .int (C 0 0)])), (a 1, .inr (3, [.ref (a 6), .ref (a 7), .int (C 3 0)])), (a 2, .inr (3, [.ref (a 8), .ref (a 9), .int (C 6 0)])), (a 3, .inr (0, [.ref (a 10), .ref (a 11), .ref (a 12), .ref (a 13), .ref (a 14), .ref (a 15), .ref (a 16), .ref (a 17), .ref (a 18), .ref (a 19), .int (C 19 0)])), (a 4, .inr (5, [.ref (a 20), .int (C 20 0)])), (a 5, .inr (2, [.ref (a 21), .int (C 22 0), .ref (a 22), .ref (a 23), .ref (a 24), .ref (a 25), .int (C 27 0)])), (a 6, .inl (g.1, 4, .inl (C 1))), (a 7, .inl (g.1, 4, .inl (C 2))), (a 8, .inl (g.1, 4, .inl (C 4))), (a 9, .inl (g.1, 4, .inl (C 5))), (a 10, .inl (g.1, 80, .inl (C 7))), (a 11, .inl (g.1, 80, .inl (C 8))), (a 12, .inl (g.1, 80, .inl (C 9))), (a 13, .inl (g.1, 80, .inl (C 10))), (a 14, .inl (g.1, 320, .inl (C 11))), (a 15, .inl (g.1, 80, .inl (C 12))), (a 16, .inl (g.2.1, 80, .inl (C 13))), (a 17, .inl (g.2.1, 80, .inl (C 14))), (a 18, .inr (4, [.ref (a 26), .ref (a 27)])), (a 19, .inr (4, [.ref (a 28), .ref (a 29)])), (a 20, .inl (g.2.2.1, 16, .inr (.inr (.inr (.inr (wCo a (C 28))))))), (a 21, .inl (g.2.1, 8, .inl (C 21))), (a 22, .inl (g.1, 30, .inl (C 23))), (a 23, .inl (g.1, 30, .inl (C 24))), (a 24, .inl (g.1, 30, .inl (C 25))), (a 25, .inl (g.1, 30, .inl (C 26))), (a 26, .inl (g.2.1, 80, .inl (C 15))), (a 27, .inl (g.1, 320, .inl (C 16))), (a 28, .inl (g.2.1, 80, .inl (C 17))), (a 29, .inl (g.1, 320, .inl (C 18)))]
def cX (g : zG) (a : Nat → Nat) (C : zMS) (i : Nat) : va_E :=
  if i % 4 = 0 then .inr (1, [.ref (a (31 + i)), va_rf (bO a (C (40 + 8 * (i / 4)) 0)), .int (C (41 + 8 * (i / 4)) 0), .int (C (42 + 8 * (i / 4)) 0), .int (C (43 + 8 * (i / 4)) 0)])
  else if i % 4 = 1 then .inr (4, [.ref (a (31 + i)), .ref (a (32 + i))])
  else if i % 4 = 2 then .inl (g.2.1, 80, .inl (C (44 + 8 * (i / 4))))
  else .inl (g.1, 320, .inl (C (45 + 8 * (i / 4))))
def wPl (g : zG) (a : Nat → Nat) (C : zMS) (m : Nat) : va_W := (List.range m).map (fun i => (a (30 + i), cX g a C i))
def wC (g : zG) (a : Nat → Nat) (C : zMS) (m : Nat) : va_W := wFx g a C ++ wPl g a C m
theorem wFx_len (g : zG) (a : Nat → Nat) (C : zMS) : (wFx g a C).length = 30 := rfl
theorem wFx_cg {g : zG} {a : Nat → Nat} {C C' : zMS} (h : ∀ f, f < 40 → C' f = C f) : wFx g a C' = wFx g a C := by
  unfold wFx
  rw [h 0 (by decide), h 1 (by decide), h 2 (by decide), h 3 (by decide), h 4 (by decide), h 5 (by decide), h 6 (by decide), h 7 (by decide), h 8 (by decide), h 9 (by decide), h 10 (by decide), h 11 (by decide), h 12 (by decide), h 13 (by decide), h 14 (by decide), h 15 (by decide), h 16 (by decide), h 17 (by decide), h 18 (by decide), h 19 (by decide), h 20 (by decide), h 21 (by decide), h 22 (by decide), h 23 (by decide), h 24 (by decide), h 25 (by decide), h 26 (by decide), h 27 (by decide), h 28 (by decide)]
theorem cX_cg {g : zG} {a : Nat → Nat} {C C' : zMS} (h : ∀ f, 40 ≤ f → C' f = C f) (i : Nat) : cX g a C' i = cX g a C i := by
  unfold cX
  rw [h _ (by omega), h _ (by omega), h _ (by omega), h _ (by omega), h _ (by omega), h _ (by omega)]
theorem wPl_cg {g : zG} {a : Nat → Nat} {C C' : zMS} {m : Nat} (h : ∀ i, i < m → cX g a C' i = cX g a C i) : wPl g a C' m = wPl g a C m := by
  unfold wPl
  apply List.map_congr_left
  intro i hi
  rw [h i (List.mem_range.mp hi)]
/-- a fixed cell set -/
theorem wC_f {g : zG} {a : Nat → Nat} {C C' : zMS} {m q : Nat} {x : Nat × va_E} (hq : q < 30) (h : (wFx g a C).set q x = wFx g a C') (hp : ∀ f, 40 ≤ f → C' f = C f) : (wC g a C m).set q x = wC g a C' m := by
  unfold wC
  rw [List.set_append_left _ _ (by rw [wFx_len]; exact hq), h, wPl_cg (fun i _ => cX_cg hp i)]
theorem wC_at {g : zG} {a : Nat → Nat} {C : zMS} {m i : Nat} (h : i < m) : (wC g a C m)[30 + i]? = some (a (30 + i), cX g a C i) := by
  unfold wC wPl
  rw [List.getElem?_append_right (by rw [wFx_len]; omega), wFx_len, Nat.add_sub_cancel_left, List.getElem?_map, List.getElem?_range h]
  rfl
theorem wC_p {g : zG} {a : Nat → Nat} {C C' : zMS} {m i : Nat} {e : va_E} (hi : i < m) (hf : ∀ f, f < 40 → C' f = C f) (he : cX g a C' i = e) (hj : ∀ j, j ≠ i → cX g a C' j = cX g a C j) : (wC g a C m).set (30 + i) (a (30 + i), e) = wC g a C' m := by
  unfold wC
  rw [List.set_append_right _ _ (by rw [wFx_len]; omega), wFx_len, Nat.add_sub_cancel_left, wFx_cg hf]
  congr 1
  apply List.ext_getElem?
  intro j
  unfold wPl
  by_cases q : i = j
  · subst q
    rw [List.getElem?_set_self (by simp [hi]), List.getElem?_map, List.getElem?_range hi, ← he]
    rfl
  · rw [List.getElem?_set_ne q, List.getElem?_map, List.getElem?_map]
    by_cases hm : j < m
    · rw [List.getElem?_range hm]
      simp [hj j (fun e => q e.symm)]
    · rw [List.getElem?_eq_none (by simp; omega)]
      rfl
variable {g : zG} {a : Nat → Nat} {C : zMS} {m k : Nat}
theorem dm0 : 4 * k % 4 = 0 := by omega
theorem wC_c0 (h : 4 * k < m) : (wC g a C m)[30 + 4 * k]? = some (a (30 + 4 * k), .inr (1, [.ref (a (31 + 4 * k)), va_rf (bO a (C (40 + 8 * k) 0)), .int (C (41 + 8 * k) 0), .int (C (42 + 8 * k) 0), .int (C (43 + 8 * k) 0)])) := by
  rw [wC_at h]
  unfold cX
  rw [if_pos (by omega), show 4 * k / 4 = k by omega]
theorem wC_c1 (h : 4 * k + 1 < m) : (wC g a C m)[31 + 4 * k]? = some (a (31 + 4 * k), .inr (4, [.ref (a (32 + 4 * k)), .ref (a (33 + 4 * k))])) := by
  rw [show 31 + 4 * k = 30 + (4 * k + 1) by omega, wC_at h]
  unfold cX
  rw [if_neg (by omega), if_pos (by omega), show 31 + (4 * k + 1) = 32 + 4 * k by omega, show 32 + (4 * k + 1) = 33 + 4 * k by omega]
theorem wC_c2 (h : 4 * k + 2 < m) : (wC g a C m)[32 + 4 * k]? = some (a (32 + 4 * k), .inl (g.2.1, 80, .inl (C (44 + 8 * k)))) := by
  rw [show 32 + 4 * k = 30 + (4 * k + 2) by omega, wC_at h]
  unfold cX
  rw [if_neg (by omega), if_neg (by omega), if_pos (by omega), show (4 * k + 2) / 4 = k by omega]
theorem wC_c3 (h : 4 * k + 3 < m) : (wC g a C m)[33 + 4 * k]? = some (a (33 + 4 * k), .inl (g.1, 320, .inl (C (45 + 8 * k)))) := by
  rw [show 33 + 4 * k = 30 + (4 * k + 3) by omega, wC_at h]
  unfold cX
  rw [if_neg (by omega), if_neg (by omega), if_neg (by omega), show (4 * k + 3) / 4 = k by omega]
theorem wC_s0 {v : Int32} (h : 4 * k < m) : (wC g a C m).set (30 + 4 * k) (a (30 + 4 * k), .inr (1, [.ref (a (31 + 4 * k)), va_rf (bO a (C (40 + 8 * k) 0)), .int (C (41 + 8 * k) 0), .int (C (42 + 8 * k) 0), .int v])) = wC g a (up2 C (43 + 8 * k) 0 v) m := by
  refine wC_p h (fun f hf => up2_k (by omega)) ?_ (fun j hj => ?_)
  · unfold cX
    rw [if_pos (by omega), show 4 * k / 4 = k by omega, up2_s, up2_k (by omega), up2_k (by omega), up2_k (by omega)]
  · unfold cX
    by_cases h0 : j % 4 = 0
    · rw [if_pos h0, if_pos h0, up2_k (by omega), up2_k (by omega), up2_k (by omega), up2_k (by omega)]
    · rw [if_neg h0, if_neg h0, up2_k (by omega), up2_k (by omega)]
theorem wC_s2 {j : Nat} {x : Int32} (h : 4 * k + 2 < m) : (wC g a C m).set (32 + 4 * k) (a (32 + 4 * k), .inl (g.2.1, 80, .inl (upd (C (44 + 8 * k)) j x))) = wC g a (up2 C (44 + 8 * k) j x) m := by
  rw [show 32 + 4 * k = 30 + (4 * k + 2) by omega]
  refine wC_p h (fun f hf => up2_k (by omega)) ?_ (fun i hi => ?_)
  · unfold cX
    rw [if_neg (by omega), if_neg (by omega), if_pos (by omega), show (4 * k + 2) / 4 = k by omega]
    simp [up2]
  · unfold cX
    by_cases h0 : i % 4 = 2
    · rw [if_neg (by omega), if_neg (by omega), if_pos h0, if_neg (by omega), if_neg (by omega), if_pos h0, up2_k (by omega)]
    · rw [up2_k (by omega), up2_k (by omega), up2_k (by omega), up2_k (by omega), if_neg h0, if_neg h0, up2_k (by omega)]
theorem wC_s3 {j : Nat} {x : Int32} (h : 4 * k + 3 < m) : (wC g a C m).set (33 + 4 * k) (a (33 + 4 * k), .inl (g.1, 320, .inl (upd (C (45 + 8 * k)) j x))) = wC g a (up2 C (45 + 8 * k) j x) m := by
  rw [show 33 + 4 * k = 30 + (4 * k + 3) by omega]
  refine wC_p h (fun f hf => up2_k (by omega)) ?_ (fun i hi => ?_)
  · unfold cX
    rw [if_neg (by omega), if_neg (by omega), if_neg (by omega), show (4 * k + 3) / 4 = k by omega]
    simp [up2]
  · unfold cX
    rw [up2_k (by omega), up2_k (by omega), up2_k (by omega), up2_k (by omega), up2_k (by omega)]
    by_cases h0 : i % 4 = 0
    · rw [if_pos h0, if_pos h0]
    · by_cases h1 : i % 4 = 1
      · rw [if_neg h0, if_neg h0, if_pos h1, if_pos h1]
      · by_cases h2 : i % 4 = 2
        · rw [if_neg h0, if_neg h0, if_neg h1, if_neg h1, if_pos h2, if_pos h2]
        · rw [up2_k (by omega)]
theorem wC_push {x : Nat × va_E} (hx : x = (a (30 + m), cX g a C m)) : wC g a C m ++ [x] = wC g a C (m + 1) := by
  unfold wC wPl
  rw [List.range_succ, List.map_append, hx, List.append_assoc]
  rfl
/-- the numbers of the class's state -/
def cP (C : zMS) : Nat := nN (C 19 0)
def cD (C : zMS) : Nat := nN (C 3 0)
def cOp (C : zMS) : Nat := nN (C 6 0)
def cM (C : zMS) : Nat := nN (C 20 0)
def cK (C : zMS) : Nat := nN (C 22 0)
def cH (C : zMS) : Nat := nN (C 27 0)
def cT (C : zMS) : Nat := nN (C 0 0)
def cL (C : zMS) (p : Nat) : Nat := nN (C 10 p)
def cF (C : zMS) (k : Nat) : Nat := nN (C (41 + 8 * k) 0)
def cE (C : zMS) (k : Nat) : Nat := nN (C (42 + 8 * k) 0)
def cHc (C : zMS) (h : Nat) : Nat := nN (C 23 h)
def CI (C : zMS) : Prop := (C 19 0 = nI (cP C) ∧ cP C ≤ 80) ∧ (C 3 0 = nI (cD C) ∧ cD C ≤ 4) ∧ (C 6 0 = nI (cOp C) ∧ cOp C ≤ 4) ∧ (C 20 0 = nI (cM C) ∧ cM C ≤ 16) ∧ (C 22 0 = nI (cK C) ∧ cK C ≤ 8) ∧ (C 27 0 = nI (cH C) ∧ cH C ≤ 30) ∧ (C 0 0 = nI (cT C) ∧ cT C ≤ 400) ∧ (∀ p, C 10 p = nI (cL C p) ∧ cL C p ≤ 4) ∧ (∀ h, C 23 h = nI (cHc C h) ∧ cHc C h ≤ 7) ∧ (∀ k, C (41 + 8 * k) 0 = nI (cF C k) ∧ cF C k ≤ 80) ∧ (∀ k, C (42 + 8 * k) 0 = nI (cE C k) ∧ cE C k ≤ 80) ∧ (∀ p, C 13 p = 0 ∨ C 13 p = 1) ∧ (∀ p, C 14 p = 0 ∨ C 14 p = 1) ∧ (∀ p, C 15 p = 0 ∨ C 15 p = 1) ∧ (∀ p, C 17 p = 0 ∨ C 17 p = 1) ∧ (∀ p, C 21 p = 0 ∨ C 21 p = 1) ∧ (∀ k, C (43 + 8 * k) 0 = 0 ∨ C (43 + 8 * k) 0 = 1) ∧ (∀ k p, C (44 + 8 * k) p = 0 ∨ C (44 + 8 * k) p = 1) ∧ (∀ j, C 28 j = 1 → j < cM C)
theorem CI_19 {C : zMS} (h : CI C) : C 19 0 = nI (cP C) := h.1.1
theorem CI_b19 {C : zMS} (h : CI C) : cP C ≤ 80 := h.1.2
theorem CI_3 {C : zMS} (h : CI C) : C 3 0 = nI (cD C) := h.2.1.1
theorem CI_b3 {C : zMS} (h : CI C) : cD C ≤ 4 := h.2.1.2
theorem CI_6 {C : zMS} (h : CI C) : C 6 0 = nI (cOp C) := h.2.2.1.1
theorem CI_b6 {C : zMS} (h : CI C) : cOp C ≤ 4 := h.2.2.1.2
theorem CI_20 {C : zMS} (h : CI C) : C 20 0 = nI (cM C) := h.2.2.2.1.1
theorem CI_b20 {C : zMS} (h : CI C) : cM C ≤ 16 := h.2.2.2.1.2
theorem CI_22 {C : zMS} (h : CI C) : C 22 0 = nI (cK C) := h.2.2.2.2.1.1
theorem CI_b22 {C : zMS} (h : CI C) : cK C ≤ 8 := h.2.2.2.2.1.2
theorem CI_27 {C : zMS} (h : CI C) : C 27 0 = nI (cH C) := h.2.2.2.2.2.1.1
theorem CI_b27 {C : zMS} (h : CI C) : cH C ≤ 30 := h.2.2.2.2.2.1.2
theorem CI_0 {C : zMS} (h : CI C) : C 0 0 = nI (cT C) := h.2.2.2.2.2.2.1.1
theorem CI_b0 {C : zMS} (h : CI C) : cT C ≤ 400 := h.2.2.2.2.2.2.1.2
theorem CI_10 {C : zMS} (h : CI C) (p : Nat) : C 10 p = nI (cL C p) := (h.2.2.2.2.2.2.2.1 p).1
theorem CI_b10 {C : zMS} (h : CI C) (p : Nat) : cL C p ≤ 4 := (h.2.2.2.2.2.2.2.1 p).2
theorem CI_23 {C : zMS} (h : CI C) (p : Nat) : C 23 p = nI (cHc C p) := (h.2.2.2.2.2.2.2.2.1 p).1
theorem CI_b23 {C : zMS} (h : CI C) (p : Nat) : cHc C p ≤ 7 := (h.2.2.2.2.2.2.2.2.1 p).2
theorem CI_41 {C : zMS} (h : CI C) (p : Nat) : C (41 + 8 * p) 0 = nI (cF C p) := (h.2.2.2.2.2.2.2.2.2.1 p).1
theorem CI_b41 {C : zMS} (h : CI C) (p : Nat) : cF C p ≤ 80 := (h.2.2.2.2.2.2.2.2.2.1 p).2
theorem CI_42 {C : zMS} (h : CI C) (p : Nat) : C (42 + 8 * p) 0 = nI (cE C p) := (h.2.2.2.2.2.2.2.2.2.2.1 p).1
theorem CI_b42 {C : zMS} (h : CI C) (p : Nat) : cE C p ≤ 80 := (h.2.2.2.2.2.2.2.2.2.2.1 p).2
theorem CI_z13 {C : zMS} (h : CI C) (p : Nat) : C 13 p = 0 ∨ C 13 p = 1 := h.2.2.2.2.2.2.2.2.2.2.2.1 p
theorem CI_z14 {C : zMS} (h : CI C) (p : Nat) : C 14 p = 0 ∨ C 14 p = 1 := h.2.2.2.2.2.2.2.2.2.2.2.2.1 p
theorem CI_z15 {C : zMS} (h : CI C) (p : Nat) : C 15 p = 0 ∨ C 15 p = 1 := h.2.2.2.2.2.2.2.2.2.2.2.2.2.1 p
theorem CI_z17 {C : zMS} (h : CI C) (p : Nat) : C 17 p = 0 ∨ C 17 p = 1 := h.2.2.2.2.2.2.2.2.2.2.2.2.2.2.1 p
theorem CI_z21 {C : zMS} (h : CI C) (p : Nat) : C 21 p = 0 ∨ C 21 p = 1 := h.2.2.2.2.2.2.2.2.2.2.2.2.2.2.2.1 p
theorem CI_z43 {C : zMS} (h : CI C) (k : Nat) : C (43 + 8 * k) 0 = 0 ∨ C (43 + 8 * k) 0 = 1 := h.2.2.2.2.2.2.2.2.2.2.2.2.2.2.2.2.1 k
theorem CI_z44 {C : zMS} (h : CI C) (k p : Nat) : C (44 + 8 * k) p = 0 ∨ C (44 + 8 * k) p = 1 := h.2.2.2.2.2.2.2.2.2.2.2.2.2.2.2.2.2.1 k p
theorem CI_28 {C : zMS} (h : CI C) (j : Nat) (e : C 28 j = 1) : j < cM C := h.2.2.2.2.2.2.2.2.2.2.2.2.2.2.2.2.2.2 j e
theorem CI_bs {C : zMS} (h : CI C) : cP C ≤ 80 ∧ cD C ≤ 4 ∧ cOp C ≤ 4 ∧ cM C ≤ 16 ∧ cK C ≤ 8 ∧ cH C ≤ 30 ∧ cT C ≤ 400 := ⟨CI_b19 h, CI_b3 h, CI_b6 h, CI_b20 h, CI_b22 h, CI_b27 h, CI_b0 h⟩
