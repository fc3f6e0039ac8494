/-! small facts for the law's methods -/
section
variable {g : zG} {a : Nat → Nat} {C C' : zMS} {r e v : Int32} {w' : va_W}
theorem pPost_at {q : Int32 × zMS} (h : q = (e, C')) (hp : pPost g a q r w') : r = e ∧ w' = wC g a C' (4 * cM C') := by subst h; exact hp
theorem rPost_at (h : v = e) (hp : rPost g a C v r w') : r = e ∧ w' = wC g a C (4 * cM C) := by subst h; exact hp
end
theorem i_m1s {n : Nat} (h : n < 2 ^ 31) : (-1 : Int32) - nI n < 0 := by
  rw [Int32.lt_iff_toInt_lt, Int32.toInt_sub, nI_toInt h]
  have e1 : (-1 : Int32).toInt = -1 := by decide
  have e0 : (0 : Int32).toInt = 0 := by decide
  rw [e1, e0]
  simp only [Int.bmod]
  split <;> omega
theorem i_neg {n : Nat} (h : n < 2 ^ 31) : ¬ (nI 1 ≤ -(nI n)) := by
  rw [Int32.le_iff_toInt_le, Int32.toInt_neg, nI_toInt h]
  have e1 : (nI 1).toInt = 1 := by decide
  rw [e1]
  simp only [Int.bmod]
  split <;> omega
theorem i_m4 {n : Nat} (h : n < 2 ^ 30) : ¬ ((-10000 : Int32) ≤ (-10001) - nI n) := by
  rw [Int32.le_iff_toInt_le, Int32.toInt_sub, nI_toInt (by omega)]
  have e1 : (-10000 : Int32).toInt = -10000 := by decide
  have e2 : (-10001 : Int32).toInt = -10001 := by decide
  rw [e1, e2]
  simp only [Int.bmod]
  split <;> omega
theorem i_p4 {n : Nat} (h : n < 2 ^ 30) : ¬ (nI (10001 + n) ≤ nI 10000) := fun q => absurd ((nI_leI (by omega) (by omega)).mp q) (by omega)
theorem rn_no {x n : Nat} (hx : x < 2 ^ 31) (hn : n < 2 ^ 31) (h : n ≤ x) : ¬ rng (nI x) n := fun q => absurd ((rng_nI hx hn).mp q) (by omega)
theorem rn_in {x n : Nat} (h : x < n) : rng (nI x) n := ⟨x, h, rfl⟩
theorem cx_no {C : zMS} {x : Int32} (h : ¬ rng x (cM C)) : ¬ cCx C x := fun ⟨j, e, hj, _⟩ => h ⟨j, hj, e⟩
theorem i_pd {p : Nat} (hp : p < 2 ^ 31) {n : Nat} (hn : n < 2 ^ 31) (h0 : p = 0) : ¬ rng (nI p - nI 1) n := by subst h0; exact rng_lt0 hn (by decide)
theorem bI_e1 {P : Prop} : bI P = nI 1 ↔ P := by
  by_cases h : P
  · rw [bI_t h]; exact ⟨fun _ => h, fun _ => rfl⟩
  · rw [bI_f h]; exact ⟨fun q => absurd q (by decide), fun q => absurd q h⟩
theorem fo_copies_n (l : Launch) (D : va_G) (g : zG) (a : Nat → Nat) (C : zMS) (hst : l.stackTraces = false) (hI : CI C) (hJ : CJ C) (hn : ¬ (cM C < 16 ∧ zcnt (fun p => cSt C p = 1) (cP C) = 0)) : zWrp l yL_copies wsL_copies { frames := 8, cells := 5, slots := 413, locals := 130 } D (zT g) (wC g a C (4 * cM C)) [.ref (a 0)] (rPost g a C (-2000000003)) 5 413 := by
  refine wr_copies l D g (a 0) (wC g a C (4 * cM C)) _ rfl _ _ (rPost g a C (-2000000003)) ?_ ?_ ?_ (cl_X6_copy l D g a C hst hI hJ)
  · rintro r w' ⟨-, q⟩; exact absurd q hn
  · rintro E w' ⟨rfl, rfl, -⟩; exact ⟨xcd_S, rfl⟩
  · rintro E w' ⟨-, rfl, -⟩; rfl
theorem fo_copiesFrom_n (l : Launch) (D : va_G) (g : zG) (a : Nat → Nat) (C : zMS) (hst : l.stackTraces = false) (hI : CI C) (hJ : CJ C) (x : Int32) (hn : ¬ cCx C x) : zWrp l yL_copiesFrom wsL_copiesFrom { frames := 8, cells := 6, slots := 419, locals := 132 } D (zT g) (wC g a C (4 * cM C)) [.ref (a 0), .int x] (rPost g a C (-2000000001)) 6 419 := by
  refine wr_copiesFrom l D g (a 0) (wC g a C (4 * cM C)) _ rfl x _ _ (rPost g a C (-2000000001)) ?_ ?_ ?_ (cl_X6_copyFrom l D g a C hst hI hJ x)
  · rintro r w' ⟨-, q, -⟩; exact absurd q hn
  · rintro E w' ⟨rfl, (⟨rfl, -⟩ | ⟨-, q, -⟩)⟩
    · exact ⟨xcd_B, rfl⟩
    · exact absurd q hn
  · rintro E w' ⟨-, (⟨rfl, -⟩ | ⟨rfl, -⟩)⟩
    · exact Or.inl rfl
    · exact Or.inr rfl
/-! what a page is -/
theorem K_15 {C : zMS} (h : KV C) {p : Nat} (hp : p < cP C) : C 15 p = 1 := by
  obtain ⟨M, hM⟩ := h.1
  exact (i_pg hM (by rw [← i_P hM]; exact hp)).2.2.2.2.2.2.1
theorem K_T {C : zMS} (h : KV C) {p : Nat} (hp : p < cP C) (hT : cTB C p) : C 17 p = 1 ∧ C 14 p = 0 ∧ cSt C p = 0 := by
  have h17 : C 17 p = 1 := hT.1.trans (K_15 h hp)
  have n17 : ¬ C 17 p = 0 := by rw [h17]; decide
  have h14 : C 14 p = 0 := Classical.byContradiction (fun q => n17 (K_sn h hp q))
  exact ⟨h17, h14, by unfold cSt; rw [ifN_f (not_not_intro h14), ifN_t n17]⟩
theorem St_2 {C : zMS} {p : Nat} : cSt C p = 2 ↔ ¬ C 14 p = 0 := by
  unfold cSt
  by_cases q : ¬ C 14 p = 0
  · rw [ifN_t q]; exact ⟨fun _ => q, fun _ => rfl⟩
  · rw [ifN_f q]
    refine ⟨fun e => ?_, fun e => absurd e q⟩
    by_cases r : ¬ C 17 p = 0
    · rw [ifN_t r] at e; omega
    · rw [ifN_f r] at e; omega
theorem St_lt {C : zMS} {p : Nat} : cSt C p < 3 := by unfold cSt ifN; split <;> (try split) <;> decide
theorem St_n0 {C : zMS} (h : KV C) {p : Nat} (hp : p < cP C) (hs : ¬ cSt C p = 0) : C 17 p = 0 := by
  by_cases q : ¬ C 14 p = 0
  · exact K_sn h hp q
  · refine Classical.byContradiction (fun r => hs ?_)
    unfold cSt; rw [ifN_f q, ifN_t r]
theorem K_rv {C : zMS} (h : KV C) {p : Nat} (hp : p < cP C) (h0 : ¬ C 12 p < 0) : ∃ q, q < cP C ∧ C 12 p = nI q ∧ ¬ C 13 q = 0 := by
  rcases (h.2.2.2.1 p hp).1 with e | ⟨q, -, h2, h3, -, h5⟩
  · rw [e] at h0; exact absurd (by decide) h0
  · exact ⟨q, h2, h3, h5⟩
