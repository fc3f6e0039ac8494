/-! one lemma a call -/
def SimR (g : zG) (o b0 : Nat) (κ : Int32) (w' : va_W) (r : Int32) (M' : zMS) : Prop := M' 0 0 = κ ∧ ∃ (f' : Nat → Int64) (a' : Nat → Nat) (C' : zMS), w' = (o, .inl (g.2.2.2, 1, .inr (.inl f'))) :: wC g a' C' (4 * cM C') ∧ (κ = nI 0 → f' 0 = r.toInt64) ∧ INV M' C' ∧ a' 0 = b0
theorem simNa {M' C' : zMS} {g : zG} {o b0 m : Nat} {a' : Nat → Nat} {f : Nat → Int64} {ans r : Int32} (hI : INV M' C') (h0 : M' 0 0 = nI 0) (he : ans = r) (hm : m = 4 * cM C') (ha : a' 0 = b0) : SimR g o b0 (nI 0) ((o, .inl (g.2.2.2, 1, .inr (.inl (vp_updL f 0 ans.toInt64)))) :: wC g a' C' m) r M' :=
  ⟨h0, vp_updL f 0 ans.toInt64, a', C', by rw [hm], fun _ => by rw [he]; exact if_pos rfl, hI, ha⟩
theorem simN {M' C' : zMS} {g : zG} {o m : Nat} {a : Nat → Nat} {f : Nat → Int64} {ans r : Int32} (hI : INV M' C') (h0 : M' 0 0 = nI 0) (he : ans = r) (hm : m = 4 * cM C') : SimR g o (a 0) (nI 0) ((o, .inl (g.2.2.2, 1, .inr (.inl (vp_updL f 0 ans.toInt64)))) :: wC g a C' m) r M' := simNa hI h0 he hm rfl
theorem simT {M M' C : zMS} {g : zG} {o : Nat} {a : Nat → Nat} {f : Nat → Int64} {r : Int32} (h : INV M C) {i : Nat} (hi : i < 3) (hM : M' = up2 M 0 0 (nI (i + 1))) : SimR g o (a 0) (nI (i + 1)) ((o, .inl (g.2.2.2, 1, .inr (.inl f))) :: wC g a C (4 * cM C)) r M' := by
  subst hM
  exact ⟨up2_s, f, a, C, rfl, fun q => absurd ((nI_eq (by omega) (by decide)).mp q) (by omega), INV_0 h, rfl⟩
theorem m_f {C C' : zMS} (h : C' 20 = C 20) : 4 * cM C = 4 * cM C' := by unfold cM; rw [h]
theorem mkC_M {C : zMS} {b : Int32} {f : Nat} (h : cM C < 16) : cM (mkC C b f) = cM C + 1 := by
  unfold mkC
  show nN (nI (cM C + 1)) = _
  rw [nN_nI (by omega)]
theorem cat_1 {a E : String} {i : Nat} (h : [a][i]? = some E) : i = 0 ∧ E = a := by
  match i, h with
  | 0, h => exact ⟨rfl, (Option.some.inj h).symm⟩
theorem cat_2 {a b E : String} {i : Nat} (h : [a, b][i]? = some E) : (i = 0 ∧ E = a) ∨ (i = 1 ∧ E = b) := by
  match i, h with
  | 0, h => exact Or.inl ⟨rfl, (Option.some.inj h).symm⟩
  | 1, h => exact Or.inr ⟨rfl, (Option.some.inj h).symm⟩
theorem cat_3 {a b c E : String} {i : Nat} (h : [a, b, c][i]? = some E) : (i = 0 ∧ E = a) ∨ (i = 1 ∧ E = b) ∨ (i = 2 ∧ E = c) := by
  match i, h with
  | 0, h => exact Or.inl ⟨rfl, (Option.some.inj h).symm⟩
  | 1, h => exact Or.inr (Or.inl ⟨rfl, (Option.some.inj h).symm⟩)
  | 2, h => exact Or.inr (Or.inr ⟨rfl, (Option.some.inj h).symm⟩)
theorem gbA_k {f : Nat} (hf : f ≠ 17 ∧ f ≠ 18) : ∀ (L : List Nat) (C : zMS), gbA L C f = C f
  | [], _ => rfl
  | c :: L, C => by rw [gbA, gbA_k hf L, gbN_k C c hf]
theorem rsA_k {np f : Nat} (hf : f ≠ 12 ∧ f ≠ 11) : ∀ (L : List Nat) (M : zMS), rsA np L M f = M f
  | [], _ => rfl
  | c :: L, M => by rw [rsA, rsA_k hf L, rsN_k M c hf]
theorem i_Sum {M C : zMS} {p : Nat} {x : Int32} (h : INV M C) (hp : p < mP M) : cSum C 16 p x = sOf M (M 10) p x := by
  obtain ⟨-, -, -, -, -, -, -, p8, -⟩ := i_pg h hp
  unfold cSum sOf
  rw [i_L h hp]
  exact zsum_cg (fun l hl => by rw [(p8 l hl).1, (p8 l hl).2])
theorem i_up {M C : zMS} {y : Int32} {e p : Nat} (h : INV M C) (he : cUp C y e) (hp : p < mP M) : p < e ↔ ¬ y < M 6 p := by
  obtain ⟨e1, e2, e3⟩ := he
  rw [i_P h] at e1 e3
  constructor
  · intro q
    rw [← (i_pg h hp).1]; exact e2 p q
  · intro q
    refine Nat.lt_of_not_le (fun r => q ?_)
    have k := e3 (by omega)
    rw [(i_pg h (show e < mP M by omega)).1] at k
    exact Int32.lt_of_lt_of_le k (h.2.2.2.2.2.2.2.2.1.1 e p r hp)
theorem zsum_tail {f : Nat → Int32} {e : Nat} : ∀ {n : Nat}, e ≤ n → (∀ p, e ≤ p → p < n → f p = nI 0) → zsum f n = zsum f e
  | 0, h, _ => by rw [show e = 0 by omega]
  | n + 1, h, hz => by
    by_cases q : e = n + 1
    · rw [q]
    · rw [zsum, hz n (by omega) (Nat.lt_succ_self n), I_add0, zsum_tail (by omega) (fun p h1 h2 => hz p h1 (by omega))]
theorem i_bal {M C : zMS} {x y : Int32} {e : Nat} (h : INV M C) (he : cUp C y e) : zsum (fun p => cSum C 16 p x) e = bOf M x y := by
  have e1 : e ≤ mP M := by rw [← i_P h]; exact he.1
  unfold bOf
  rw [zsum_tail e1 (fun p h1 h2 => ifI_t (Classical.not_not.mp (fun z => absurd ((i_up h he h2).mpr z) (by omega))))]
  exact zsum_cg (fun p hp => by rw [ifI_f ((i_up h he (by omega)).mp hp)]; exact i_Sum h (by omega))
theorem i_Sum18 {M C : zMS} {p : Nat} {x : Int32} (h : INV M C) (hp : p < mP M) (h0 : M 12 p = 0) : cSum C 18 p x = sOf M (M 11) p x := by
  obtain ⟨-, -, -, -, -, -, -, p8, -⟩ := i_pg h hp
  rcases i_nw h hp with ⟨-, -, -, h4, -⟩ | ⟨h1, -⟩ | ⟨h1, -⟩
  · unfold cSum sOf
    rw [i_L h hp]
    exact zsum_cg (fun l hl => by rw [(p8 l hl).1, h4 l hl])
  · exact absurd (h1.symm.trans h0) n12.1
  · exact absurd (h1.symm.trans h0) n12.2.1
theorem i_St2n {M C : zMS} {p : Nat} (h : INV M C) (hp : p < mP M) : cSt C p = 2 ↔ M 12 p = nI 2 := by
  have b : cSt C p < 3 := by
    unfold cSt ifN; split <;> (try split) <;> decide
  rw [i_St h hp]; exact ((nI_eq (by omega) (by decide)).symm)
theorem i_balP {M C : zMS} {x y : Int32} {e : Nat} (h : INV M C) (he : cUp C y e) (hb : ∀ p, p < e → ¬ cSt C p = 1) : zsum (fun p => ifI (cSt C p = 2) (cSum C 16 p x) (cSum C 18 p x)) e = bPg M x y := by
  have e1 : e ≤ mP M := by rw [← i_P h]; exact he.1
  unfold bPg
  rw [zsum_tail e1 (fun p h1 h2 => ifI_t (Classical.not_not.mp (fun z => absurd ((i_up h he h2).mpr z) (by omega))))]
  refine zsum_cg (fun p hp => ?_)
  have hp' : p < mP M := by omega
  rw [ifI_f ((i_up h he hp').mp hp)]
  by_cases q : M 12 p = nI 2
  · rw [ifI_t ((i_St2n h hp').mpr q), ifI_t q]; exact i_Sum h hp'
  · rw [ifI_f (fun z => q ((i_St2n h hp').mp z)), ifI_f q]
    have h0 : M 12 p = 0 := by
      rcases i_nw h hp' with ⟨h1, -⟩ | ⟨h1, -⟩ | ⟨h1, -⟩
      · exact h1
      · exact absurd ((i_St1 h hp').mpr h1) (hb p hp)
      · exact absurd h1 q
    exact i_Sum18 h hp' h0
theorem i_TT {M C : zMS} {p : Nat} (h : INV M C) (hp : p < mP M) : cTT C p ↔ (M 12 p = nI 2 ∨ pTB M p ∨ pFd M p (nI 1)) := by
  unfold cTT
  rw [i_HT h hp (x := nI 0) (v := nI 1) ⟨fun _ => by decide, fun _ => rfl⟩, i_St2 h hp, i_TB h hp]
  constructor
  · rintro (a | a | a)
    · exact Or.inr (Or.inr a)
    · exact Or.inl a
    · exact Or.inr (Or.inl a)
  · rintro (a | a | a)
    · exact Or.inr (Or.inl a)
    · exact Or.inr (Or.inr a)
    · exact Or.inl a
theorem i_Lk {M C : zMS} {k p : Nat} (h : INV M C) (hk : k < mC M) (h19 : M 19 k = 0) (hh : pHas M k p) (hp : p < mP M) : Lk C (44 + 8 * k) (45 + 8 * k) 17 18 p ↔ pSm M k p := by
  have bP := MI_b5 h.1
  have bL := MI_b8 h.1 p
  obtain ⟨c1, c2, c3, c4⟩ := n12
  unfold Lk pSm
  rcases ((i_cp h hk).2.2.2.2.2 h19 p (by omega)).1 hh with ⟨s1, s2, s3⟩ | ⟨s1, s2, s3, s4⟩
  · rw [s1, s2]
    rcases i_nw h hp with ⟨h1, h2, h3, -⟩ | ⟨h1, h2, h3, h4⟩ | ⟨h1, h2, h3, h4⟩
    · rw [h3, bI_t h1]; exact ⟨fun z => absurd z.1.symm c4, fun z => absurd z.1 c4⟩
    · rw [h3, bI_f (by rw [h1]; exact c1)]; exact ⟨fun _ => ⟨rfl, fun z => absurd (h1.symm.trans z) c1⟩, fun _ => ⟨rfl, fun l hl => by rw [s3 l hl, h4 l hl]⟩⟩
    · rw [h3, bI_f (by rw [h1]; exact c2)]; exact ⟨fun _ => ⟨rfl, fun z => absurd (h1.symm.trans z) c2⟩, fun _ => ⟨rfl, fun l hl => by rw [s3 l hl, h4 l hl]⟩⟩
  · rw [s1, s2]
    rcases i_nw h hp with ⟨h1, h2, h3, h4, h5⟩ | ⟨h1, h2, h3, h4⟩ | ⟨h1, h2, h3, h4⟩
    · rw [h3, bI_t h1]
      refine ⟨fun z => ⟨rfl, fun _ l hl => ?_⟩, fun z => ⟨rfl, fun l hl => ?_⟩⟩
      · rw [← s3 l hl, ← h4 l hl]; exact z.2 l (by omega)
      · by_cases hl2 : l < mL M p
        · rw [s3 l hl2, h4 l hl2]; exact z.2 h1 l hl2
        · rw [s4 l (by omega) hl, h5 l (by omega) hl]
    · rw [h3, bI_f (by rw [h1]; exact c1)]; exact ⟨fun z => absurd z.1 c4, fun z => absurd z.1.symm c4⟩
    · rw [h3, bI_f (by rw [h1]; exact c2)]; exact ⟨fun z => absurd z.1 c4, fun z => absurd z.1.symm c4⟩
