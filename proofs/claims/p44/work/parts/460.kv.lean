/-! what holds of the class's state in every run, beyond INV: legs, marks, reversals, the vault -/
def amt (z : Int32) : Prop := (-10000) ≤ z ∧ z ≤ nI (10000)
def Pg1 (C : zMS) : Prop := ∀ l, l < cD C → rng (C 1 l) 8 ∧ amt (C 2 l)
def Pg2 (C : zMS) : Prop := ∀ p, p < cP C → rng (C 8 p) 10000 ∧ rng (C 9 p) 1000003 ∧ (∀ l, l < cL C p → rng (C 11 (p * 4 + l)) 8 ∧ amt (C 16 (p * 4 + l))) ∧ zsum (fun l => C 16 (p * 4 + l)) (cL C p) = 0
def RvK (C : zMS) : Prop := ∀ p, p < cP C → (C 12 p = -1 ∨ ∃ q, p < q ∧ q < cP C ∧ C 12 p = nI q ∧ C 12 q = -1 ∧ ¬ C 13 q = 0) ∧ (¬ C 13 p = 0 → C 12 p = -1)
def VlK (C : zMS) : Prop := ∀ k, k < cM C → C 28 k = 1 → ¬ C (43 + 8 * k) 0 = 0 → ∀ p, p < 80 → ¬ C 14 p = 0 → C (44 + 8 * k) p = 0
def KV (C : zMS) : Prop := (∃ M, INV M C) ∧ Pg1 C ∧ Pg2 C ∧ RvK C ∧ VlK C
theorem KV_I {C : zMS} (h : KV C) : CI C := h.1.elim (fun _ q => q.2.1)
theorem KV_J {C : zMS} (h : KV C) : CJ C := h.1.elim (fun _ q => i_CJ q)
theorem Pg1_f {C C' : zMS} (e : ∀ f, f = 1 ∨ f = 2 ∨ f = 3 → C' f = C f) (h : Pg1 C) : Pg1 C' := by
  unfold Pg1 cD at h ⊢
  rw [e 1 (by omega), e 2 (by omega), e 3 (by omega)]; exact h
theorem Pg2_f {C C' : zMS} (e : ∀ f, f = 8 ∨ f = 9 ∨ f = 10 ∨ f = 11 ∨ f = 16 ∨ f = 19 → C' f = C f) (h : Pg2 C) : Pg2 C' := by
  unfold Pg2 cP cL at h ⊢
  rw [e 8 (by omega), e 9 (by omega), e 10 (by omega), e 11 (by omega), e 16 (by omega), e 19 (by omega)]; exact h
theorem RvK_f {C C' : zMS} (e : ∀ f, f = 12 ∨ f = 13 ∨ f = 19 → C' f = C f) (h : RvK C) : RvK C' := by
  unfold RvK cP at h ⊢
  rw [e 12 (by omega), e 13 (by omega), e 19 (by omega)]; exact h
theorem VlK_f {C C' : zMS} (h20 : C' 20 = C 20) (h28 : C' 28 = C 28) (h14 : C' 14 = C 14) (h43 : ∀ k, C' (43 + 8 * k) = C (43 + 8 * k)) (h44 : ∀ k, C' (44 + 8 * k) = C (44 + 8 * k)) (h : VlK C) : VlK C' := by
  intro k hk h1 h2 p hp h3
  unfold cM at hk
  rw [h20] at hk; rw [h28] at h1; rw [h43] at h2; rw [h14] at h3; rw [h44]
  exact h k hk h1 h2 p hp h3
/-- where nothing but the fields 17, 18 (the book as it is now), the court's or the day changes -/
theorem KV_cg {C C' : zMS} (hI : ∃ M, INV M C') (e : ∀ f, f ≠ 0 → (f < 4 ∨ 7 ≤ f) → f ≠ 17 → f ≠ 18 → (f < 21 ∨ 27 < f) → C' f = C f) (h : KV C) : KV C' :=
  ⟨hI, Pg1_f (fun f hf => e f (by omega) (by omega) (by omega) (by omega) (by omega)) h.2.1, Pg2_f (fun f hf => e f (by omega) (by omega) (by omega) (by omega) (by omega)) h.2.2.1, RvK_f (fun f hf => e f (by omega) (by omega) (by omega) (by omega) (by omega)) h.2.2.2.1, VlK_f (e 20 (by omega) (by omega) (by omega) (by omega) (by omega)) (e 28 (by omega) (by omega) (by omega) (by omega) (by omega)) (e 14 (by omega) (by omega) (by omega) (by omega) (by omega)) (fun k => e _ (by omega) (by omega) (by omega) (by omega) (by omega)) (fun k => e _ (by omega) (by omega) (by omega) (by omega) (by omega)) h.2.2.2.2⟩
/-! marks -/
theorem amt_of {z : Int32} (h : amt z) : ∃ b, b ≤ 20000 ∧ z + nI 10000 = nI b := by
  obtain ⟨h1, h2⟩ := h
  rw [Int32.le_iff_toInt_le] at h1 h2
  have e1 : (-10000 : Int32).toInt = -10000 := by decide
  have e2 : (nI 10000).toInt = 10000 := by decide
  rw [e1] at h1; rw [e2] at h2
  have e3 : (z + nI 10000).toInt = z.toInt + 10000 := by
    rw [Int32.toInt_add, e2]
    simp only [Int.bmod]
    split <;> omega
  refine ⟨(z.toInt + 10000).toNat, by omega, ?_⟩
  apply Int32.toInt_inj.mp
  rw [e3, nI_toInt (by omega)]
  omega
theorem amt_neg {z : Int32} (h : amt z) : amt (-z) := by
  obtain ⟨h1, h2⟩ := h
  unfold amt
  rw [Int32.le_iff_toInt_le] at h1 h2 ⊢
  rw [Int32.le_iff_toInt_le]
  have e1 : (-10000 : Int32).toInt = -10000 := by decide
  have e2 : (nI 10000).toInt = 10000 := by decide
  rw [e1] at h1 ⊢; rw [e2] at h2 ⊢
  have e3 : (-z).toInt = -z.toInt := by
    rw [Int32.toInt_neg]
    simp only [Int.bmod]
    split <;> omega
  rw [e3]; omega
theorem nMk_rng {m v : Int32} (hm : rng m 1000003) (hv : ∃ b, b ≤ 20000 ∧ v = nI b) : rng (nMk m v) 1000003 := by
  obtain ⟨a, ha, rfl⟩ := hm
  obtain ⟨b, hb, rfl⟩ := hv
  unfold nMk
  rw [pk_mul, pk_mul, nI_add, nI_add, show (1000003 : Int32) = nI 1000003 from rfl, pk_rem (by omega) (by omega) (by omega)]
  exact ⟨_, Nat.mod_lt _ (by omega), rfl⟩
theorem fMk_rng {a b : Nat → Int32} {m : Int32} (hm : rng m 1000003) : ∀ {n : Nat}, (∀ l, l < n → rng (a l) 8 ∧ amt (b l)) → rng (fMk a b m n) 1000003
  | 0, _ => hm
  | n + 1, h => by
    obtain ⟨⟨j, hj, e⟩, h2⟩ := h n (Nat.lt_succ_self n)
    exact nMk_rng (nMk_rng (fMk_rng hm (fun l hl => h l (Nat.lt_succ_of_lt hl))) ⟨j, by omega, e⟩) (amt_of h2)
theorem zsum_neg (f : Nat → Int32) : ∀ n, zsum (fun l => -(f l)) n = -(zsum f n)
  | 0 => by show (0 : Int32) = -0; rfl
  | n + 1 => by
    show zsum (fun l => -(f l)) n + -(f n) = -(zsum f n + f n)
    rw [zsum_neg f n, Int32.neg_add, Int32.sub_eq_add_neg]
/-! a page more -/
theorem Pg2_ap {C : zMS} {ka km n t : Nat} {x : Int32} (hI : CI C) (hP : cP C < 80) (h : Pg2 C) (hn : n ≤ 4) (hka : ka < 7) (hkm : km < 7) (hx : rng x 10000) (ht : t ≤ 400) (hrow : ∀ l, l < n → rng (C ka l) 8 ∧ amt (C km l)) (hsum : zsum (C km) n = 0) : Pg2 (apC C (cP C) ka km n x (nI t)) := by
  have e19 : cP (apC C (cP C) ka km n x (nI t)) = cP C + 1 := by
    unfold cP
    show nN (up2 _ 19 0 (nI (cP C + 1)) 19 0) = _
    rw [up2_s, nN_nI (by omega)]; rfl
  intro p hp
  rw [e19] at hp
  by_cases q : p = cP C
  · subst q
    have eL : cL (apC C (cP C) ka km n x (nI t)) (cP C) = n := by unfold cL; rw [ap_10, nN_nI (by omega)]
    rw [eL, ap_8, ap_9]
    refine ⟨hx, ?_, fun l hl => by rw [ap_11v hka hl, ap_16v hkm hl]; exact hrow l hl, ?_⟩
    · obtain ⟨j, hj, ej⟩ := hx
      exact fMk_rng (nMk_rng (nMk_rng ⟨1, by omega, rfl⟩ ⟨t, by omega, rfl⟩) ⟨j, by omega, ej⟩) hrow
    · rw [← hsum]; exact zsum_cg (fun l hl => ap_16v hkm hl)
  · have eL : cL (apC C (cP C) ka km n x (nI t)) p = cL C p := by unfold cL; rw [ap_o (by omega) q]
    have bL := CI_b10 hI p
    obtain ⟨h1, h2, h3, h4⟩ := h p (by omega)
    rw [eL, ap_o (by omega) q, ap_o (by omega) q]
    refine ⟨h1, h2, fun l hl => by rw [ap_11o (by omega), ap_16o (Or.inl (by omega))]; exact h3 l hl, ?_⟩
    rw [← h4]; exact zsum_cg (fun l hl => ap_16o (Or.inl (by omega)))
theorem cP_ap {C : zMS} {ka km n p : Nat} {x y : Int32} (hP : p < 80) : cP (apC C p ka km n x y) = p + 1 := by
  unfold cP
  show nN (up2 _ 19 0 (nI (p + 1)) 19 0) = _
  rw [up2_s, nN_nI (by omega)]
theorem RvK_ap {C : zMS} {ka km n : Nat} {x y : Int32} (hP : cP C < 80) (h : RvK C) : RvK (apC C (cP C) ka km n x y) := by
  intro p hp
  rw [cP_ap hP] at hp ⊢
  rw [apC_k (k := 13) (by omega)]
  by_cases q : p = cP C
  · subst q; rw [ap_12]; exact ⟨Or.inl rfl, fun _ => rfl⟩
  · rw [ap_12o q]
    obtain ⟨h1, h2⟩ := h p (by omega)
    refine ⟨h1.elim Or.inl (fun ⟨r, r1, r2, r3, r4, r5⟩ => Or.inr ⟨r, r1, by omega, r3, ?_, r5⟩), h2⟩
    rw [ap_12o (by omega)]; exact r4
theorem VlK_ap {C : zMS} {p ka km n : Nat} {x y : Int32} (h : VlK C) : VlK (apC C p ka km n x y) :=
  VlK_f (apC_k (by omega)) (apC_k (by omega)) (apC_k (by omega)) (fun k => apC_k (by omega)) (fun k => apC_k (by omega)) h
theorem K_legs {C : zMS} {x y : Int32} (h : KV C) (g0 : rng x 8) (g1 : (-10000) ≤ y ∧ y ≤ nI (10000)) (g3 : cD C < 4) : KV (up2 (up2 (up2 C 1 (cD C) x) 2 (cD C) y) 3 0 (nI (cD C + 1))) := by
  obtain ⟨⟨M, hM⟩, h1, h2, h3, h4⟩ := h
  refine ⟨⟨_, by have := INV_leg (x := x) (y := y) hM (by rw [← i_D hM]; exact g3); rw [← i_D hM] at this; exact this⟩, ?_, Pg2_f (fun f hf => by rw [up2_k (by omega), up2_k (by omega), up2_k (by omega)]) h2, RvK_f (fun f hf => by rw [up2_k (by omega), up2_k (by omega), up2_k (by omega)]) h3, VlK_f (by rw [up2_k (by omega), up2_k (by omega), up2_k (by omega)]) (by rw [up2_k (by omega), up2_k (by omega), up2_k (by omega)]) (by rw [up2_k (by omega), up2_k (by omega), up2_k (by omega)]) (fun k => by rw [up2_k (by omega), up2_k (by omega), up2_k (by omega)]) (fun k => by rw [up2_k (by omega), up2_k (by omega), up2_k (by omega)]) h4⟩
  intro l hl
  have e : cD (up2 (up2 (up2 C 1 (cD C) x) 2 (cD C) y) 3 0 (nI (cD C + 1))) = cD C + 1 := by
    show nN (up2 _ 3 0 (nI (cD C + 1)) 3 0) = _
    rw [up2_s, nN_nI (by omega)]
  rw [e] at hl
  rw [up2_k (show 1 ≠ 3 by omega), up2_k (show 2 ≠ 3 by omega), up2_k (show 1 ≠ 2 by omega)]
  by_cases q : l = cD C
  · subst q; rw [up2_s, up2_s]; exact ⟨g0, g1⟩
  · rw [up2_i q, up2_i q, up2_k (show 2 ≠ 1 by omega)]; exact h1 l (by omega)
theorem cD_0 {C : zMS} : cD (up2 C 3 0 (nI 0)) = 0 := by
  show nN (up2 _ 3 0 (nI 0) 3 0) = _
  rw [up2_s, nN_nI (by omega)]
theorem K_clr {C : zMS} (hI : ∃ M, INV M (up2 C 3 0 (nI 0))) (h2 : Pg2 C) (h3 : RvK C) (h4 : VlK C) : KV (up2 C 3 0 (nI 0)) :=
  ⟨hI, fun l hl => absurd hl (by rw [cD_0]; omega), Pg2_f (fun f hf => up2_k (by omega)) h2, RvK_f (fun f hf => up2_k (by omega)) h3, VlK_f (up2_k (by omega)) (up2_k (by omega)) (up2_k (by omega)) (fun k => up2_k (by omega)) (fun k => up2_k (by omega)) h4⟩
theorem K_wipe {C : zMS} (h : KV C) : KV (up2 C 3 0 (nI 0)) := K_clr (h.1.elim (fun _ q => ⟨_, INV_clr q⟩)) h.2.2.1 h.2.2.2.1 h.2.2.2.2
theorem K_writes {C : zMS} {x : Int32} (h : KV C) (g0 : rng x 10000) (g1 : (2 ≤ cD C ∧ zsum (C 2) (cD C) = 0) ∧ cP C < 80) : KV (up2 (apC C (cP C) 1 2 (cD C) x (nI (cT C))) 3 0 (nI 0)) := by
  have hI := KV_I h
  obtain ⟨⟨M, hM⟩, h1, h2, h3, h4⟩ := h
  refine K_clr ⟨_, by have := INV_write (x := x) hM (by rw [← i_P hM]; exact g1.2); rw [← i_D hM, ← i_P hM, ← i_T hM] at this; exact this⟩ ?_ (RvK_ap g1.2 h3) (VlK_ap h4)
  exact Pg2_ap hI g1.2 h2 (CI_b3 hI) (by omega) (by omega) g0 (CI_b0 hI) h1 g1.1.2
theorem K_reverses {C : zMS} {j : Nat} (h : KV C) (hj : j < cP C) (g1 : (cTB C j ∧ ¬ 0 ≤ C 12 j ∧ C 13 j = 0) ∧ cP C < 80) : KV (rvC C j (nI (cT C))) := by
  have hI := KV_I h
  obtain ⟨⟨M, hM⟩, h1, h2, h3, h4⟩ := h
  have hIM : ∃ M', INV M' (rvC C j (nI (cT C))) := ⟨_, INV_reverse hM (by rw [← i_P hM]; exact hj) (by rw [← i_P hM]; exact g1.2)⟩
  have bL := CI_b10 hI j
  have eP : cP (opL C j (cL C j)) = cP C := by unfold cP; rw [opL_k C j (by omega)]
  obtain ⟨k1, -, k3, k4⟩ := h2 j hj
  have hv := fun l (hl : l < cL C j) => opL_v (C := C) (j := j) hl
  have p2 : Pg2 (apC (opL C j (cL C j)) (cP C) 4 5 (cL C j) (C 8 j) (nI (cT C))) := by
    have := Pg2_ap (C := opL C j (cL C j)) (ka := 4) (km := 5) (n := cL C j) (t := cT C) (x := C 8 j) (CI_opL hI bL) (by rw [eP]; exact g1.2) (Pg2_f (fun f hf => opL_k C j (by omega) _) h2) bL (by omega) (by omega) k1 (CI_b0 hI) (fun l hl => by rw [(hv l hl).1, (hv l hl).2]; exact ⟨(k3 l hl).1, amt_neg (k3 l hl).2⟩) (by
      rw [zsum_cg (r := fun l => -(C 16 (j * 4 + l))) (fun l hl => (hv l hl).2), zsum_neg, k4]; rfl)
    rw [eP] at this; exact this
  have p3 : RvK (apC (opL C j (cL C j)) (cP C) 4 5 (cL C j) (C 8 j) (nI (cT C))) := by
    have := RvK_ap (C := opL C j (cL C j)) (ka := 4) (km := 5) (n := cL C j) (x := C 8 j) (y := nI (cT C)) (by rw [eP]; exact g1.2) (RvK_f (fun f hf => opL_k C j (by omega) _) h3)
    rw [eP] at this; exact this
  have p4 : VlK (apC (opL C j (cL C j)) (cP C) 4 5 (cL C j) (C 8 j) (nI (cT C))) := VlK_ap (VlK_f (opL_k C j (by omega) _) (opL_k C j (by omega) _) (opL_k C j (by omega) _) (fun k => opL_k C j (by omega) _) (fun k => opL_k C j (by omega) _) h4)
  have e12 : ∀ q, q ≠ cP C → apC (opL C j (cL C j)) (cP C) 4 5 (cL C j) (C 8 j) (nI (cT C)) 12 q = C 12 q := fun q hq => by rw [ap_12o hq, opL_k C j (by omega)]
  have e13 : apC (opL C j (cL C j)) (cP C) 4 5 (cL C j) (C 8 j) (nI (cT C)) 13 = C 13 := by rw [apC_k (by omega), opL_k C j (by omega)]
  have eP2 : cP (apC (opL C j (cL C j)) (cP C) 4 5 (cL C j) (C 8 j) (nI (cT C))) = cP C + 1 := cP_ap g1.2
  refine ⟨hIM, ?_, ?_, ?_, ?_⟩
  · unfold rvC
    exact Pg1_f (fun f hf => by rw [up2_k (by omega), up2_k (by omega), apC_k (by omega), opL_k C j (by omega)]) h1
  · unfold rvC
    exact Pg2_f (fun f hf => by rw [up2_k (by omega), up2_k (by omega)]) p2
  · intro p hp
    have eP3 : cP (rvC C j (nI (cT C))) = cP C + 1 := by unfold rvC; rw [← eP2]; unfold cP; rw [up2_k (by omega), up2_k (by omega)]
    rw [eP3] at hp ⊢
    unfold rvC
    rw [up2_k (show 13 ≠ 12 by omega)]
    have c12 : ∀ q, q ≠ j → up2 (up2 (apC (opL C j (cL C j)) (cP C) 4 5 (cL C j) (C 8 j) (nI (cT C))) 13 (cP C) (nI 1)) 12 j (nI (cP C)) 12 q = apC (opL C j (cL C j)) (cP C) 4 5 (cL C j) (C 8 j) (nI (cT C)) 12 q := fun q hq => by rw [up2_i hq, up2_k (by omega)]
    have n1 : ¬ (nI 1 : Int32) = 0 := by decide
    by_cases q : p = j
    · subst q
      rw [up2_s]
      refine ⟨Or.inr ⟨cP C, hj, by omega, rfl, ?_, ?_⟩, fun z => absurd ?_ z⟩
      · rw [c12 _ (by omega), ap_12]
      · rw [up2_s]; exact n1
      · rw [up2_i (by omega), e13]; exact g1.1.2.2
    · rw [c12 p q]
      by_cases r : p = cP C
      · subst r; rw [ap_12]; exact ⟨Or.inl rfl, fun _ => rfl⟩
      · rw [e12 p r, up2_i r, e13]
        obtain ⟨a1, a2⟩ := h3 p (by omega)
        refine ⟨a1.elim Or.inl (fun ⟨u, u1, u2, u3, u4, u5⟩ => Or.inr ⟨u, u1, by omega, u3, ?_, ?_⟩), a2⟩
        · have : u ≠ j := fun e => u5 (e ▸ g1.1.2.2)
          rw [c12 u this, e12 u (by omega)]; exact u4
        · rw [up2_i (by omega), e13]; exact u5
  · unfold rvC
    exact VlK_f (by rw [up2_k (by omega), up2_k (by omega)]) (by rw [up2_k (by omega), up2_k (by omega)]) (by rw [up2_k (by omega), up2_k (by omega)]) (fun k => by rw [up2_k (by omega), up2_k (by omega)]) (fun k => by rw [up2_k (by omega), up2_k (by omega)]) p4
