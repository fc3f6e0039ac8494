/-! sums over accounts, and what holdsAll looks at -/
theorem zsum_0 {f : Nat → Int32} : ∀ {n : Nat}, (∀ k, k < n → f k = 0) → zsum f n = 0
  | 0, _ => rfl
  | n + 1, h => by rw [zsum, zsum_0 (fun k hk => h k (Nat.lt_succ_of_lt hk)), h n (Nat.lt_succ_self n)]; rfl
theorem zsum_add (f r : Nat → Int32) : ∀ n, zsum (fun k => f k + r k) n = zsum f n + zsum r n
  | 0 => rfl
  | n + 1 => by
    show zsum (fun k => f k + r k) n + (f n + r n) = (zsum f n + f n) + (zsum r n + r n)
    rw [zsum_add f r n, Int32.add_assoc, Int32.add_assoc, ← Int32.add_assoc (zsum r n), Int32.add_comm (zsum r n) (f n), Int32.add_assoc]
theorem zsum_swap (F : Nat → Nat → Int32) (n : Nat) : ∀ m, zsum (fun x => zsum (fun l => F x l) n) m = zsum (fun l => zsum (fun x => F x l) m) n
  | 0 => (zsum_0 (fun _ _ => rfl)).symm
  | m + 1 => by
    show zsum (fun x => zsum (fun l => F x l) n) m + zsum (fun l => F m l) n = zsum (fun l => zsum (fun x => F x l) m + F m l) n
    rw [zsum_swap F n m, zsum_add]
theorem zsum_pick {v : Int32} {j : Nat} (hj : j < 2 ^ 31) : ∀ {m : Nat}, m < 2 ^ 31 → zsum (fun x => ifI (nI j = nI x) v (nI 0)) m = ifI (j < m) v (nI 0)
  | 0, _ => by rw [ifI_f (by omega)]; rfl
  | m + 1, hm => by
    show zsum (fun x => ifI (nI j = nI x) v (nI 0)) m + ifI (nI j = nI m) v (nI 0) = _
    rw [zsum_pick hj (by omega)]
    by_cases q : j = m
    · rw [ifI_f (show ¬ j < m by omega), ifI_t (show nI j = nI m by rw [q]), ifI_t (by omega)]; exact I_0add v
    · rw [ifI_f (show ¬ nI j = nI m from fun e => q ((nI_eq hj (by omega)).mp e)), I_add0]
      exact ifI_cg ⟨fun h => by omega, fun h => by omega⟩
theorem cSum_all {C : zMS} {r p : Nat} (h : ∀ l, l < cL C p → rng (C 11 (p * 4 + l)) 8) : zsum (fun x => cSum C r p (nI x)) 8 = zsum (fun l => C r (p * 4 + l)) (cL C p) := by
  unfold cSum
  rw [zsum_swap]
  refine zsum_cg (fun l hl => ?_)
  obtain ⟨j, hj, e⟩ := h l hl
  show zsum (fun x => ifI (C 11 (p * 4 + l) = nI x) (C r (p * 4 + l)) (nI 0)) 8 = _
  rw [e, zsum_pick (by omega) (by omega), ifI_t hj]
theorem ha_own {C : zMS} (hV : KV C) {p : Nat} (hp : p < cP C) : zsum (fun x => s_proven C (nI p) (nI x)) 8 = nI 0 := by
  have bP := CI_b19 (KV_I hV)
  have ep : nN (nI p) = p := nN_nI (by omega)
  obtain ⟨-, -, h3, h4⟩ := hV.2.2.1 p hp
  have e : ∀ x, x < 8 → s_proven C (nI p) (nI x) = ifI (¬ C 14 p = 0) (cSum C 16 p (nI x)) (nI 0) := fun x hx => by rw [s_proven_ok (rn_in hp) (rn_in hx), ep]
  rw [zsum_cg e]
  by_cases q : ¬ C 14 p = 0
  · rw [zsum_cg (fun x _ => ifI_t q), cSum_all (fun l hl => (h3 l hl).1), h4]; rfl
  · rw [zsum_cg (fun x _ => ifI_f q)]; exact zsum_0 (fun _ _ => rfl)
theorem cUp_ex (C : zMS) (y : Int32) : ∃ e, cUp C y e := by
  have key : ∀ n, n ≤ cP C → (∃ e, cUp C y e) ∨ ∀ p, p < n → ¬ y < C 7 p := by
    intro n
    induction n with
    | zero => exact fun _ => Or.inr (fun p hp => absurd hp (Nat.not_lt_zero p))
    | succ n ih =>
      intro hn
      rcases ih (by omega) with h | h
      · exact Or.inl h
      · by_cases q : y < C 7 n
        · exact Or.inl ⟨n, by omega, h, fun _ => q⟩
        · refine Or.inr (fun p hp => ?_)
          by_cases e : p = n
          · rw [e]; exact q
          · exact h p (by omega)
  rcases key (cP C) (Nat.le_refl _) with h | h
  · exact h
  · exact ⟨cP C, Nat.le_refl _, h, fun q => absurd q (Nat.lt_irrefl _)⟩
theorem cUE_sp (C : zMS) (y : Int32) : cUp C y (cUE C y) := Classical.epsilon_spec (cUp_ex C y)
theorem ha_sum {C : zMS} (hV : KV C) {y : Int32} (hy : rng y (cT C + 1)) : zsum (fun x => s_balance C (nI x) y) 8 = 0 := by
  have e : ∀ x, x < 8 → s_balance C (nI x) y = zsum (fun p => cSum C 16 p (nI x)) (cUE C y) := fun x hx => s_balance_ok (rn_in hx) hy
  rw [zsum_cg e, zsum_swap]
  refine zsum_0 (fun p hp => ?_)
  have hp2 : p < cP C := Nat.lt_of_lt_of_le hp (cUE_sp C y).1
  obtain ⟨-, -, h3, h4⟩ := hV.2.2.1 p hp2
  rw [cSum_all (fun l hl => (h3 l hl).1), h4]
/-- all pages up to n are struck or true -/
def AT (C : zMS) (n : Nat) : Prop := ∀ p, p < n → cSt C p = 2 ∨ cTB C p
theorem AT_0 {C : zMS} : AT C 0 := fun p hp => absurd hp (Nat.not_lt_zero p)
theorem AT_s {C : zMS} {n : Nat} (h : AT C n) (q : cSt C n = 2 ∨ cTB C n) : AT C (n + 1) := fun p hp => by
  by_cases e : p = n
  · rw [e]; exact q
  · exact h p (by omega)
theorem AT_l {C : zMS} {n : Nat} (h : AT C (n + 1)) : AT C n := fun p hp => h p (by omega)
theorem ha_cp {C : zMS} {x y : Int32} (hx : rng x 8) (hy : rng y (cT C + 1)) : s_byCopies C x y = s_balance C x y ∨ (s_byCopies C x y = (-2000000003) ∧ ¬ AT C (cP C)) := by
  by_cases q : ∀ e, cUp C y e → ∀ p, p < e → cTT C p
  · left; rw [s_byCopies_ok hx hy q, s_balance_ok hx hy]
  · right
    refine ⟨s_byCopies_2 hx hy q, fun z => q (fun e he p hp => ?_)⟩
    rcases z p (Nat.lt_of_lt_of_le hp he.1) with r | r
    · exact Or.inr (Or.inl (St_2.mp r))
    · exact Or.inr (Or.inr r)
theorem ha_pg {C : zMS} (hV : KV C) {x y : Int32} (hA : AT C (cP C)) (hx : rng x 8) (hy : rng y (cT C + 1)) : s_byPages C x y = s_balance C x y := by
  have g2 : ∀ e, cUp C y e → ∀ p, p < e → ¬ cSt C p = 1 := fun e he p hp z => by
    have hp2 := Nat.lt_of_lt_of_le hp he.1
    rcases hA p hp2 with r | r
    · rw [r] at z; omega
    · rw [(K_T hV hp2 r).2.2] at z; omega
  rw [s_byPages_ok hx hy g2, s_balance_ok hx hy]
  refine zsum_cg (fun p hp => ?_)
  have hp2 := Nat.lt_of_lt_of_le hp (cUE_sp C y).1
  by_cases q : cSt C p = 2
  · rw [ifI_t q]
  · rw [ifI_f q]
    have hT := (hA p hp2).resolve_left q
    have bL := CI_b10 (KV_I hV) p
    unfold cSum
    exact zsum_cg (fun l hl => by rw [hT.2 l (by omega)])
theorem zcnt_mono {P R : Nat → Prop} : ∀ {n : Nat}, (∀ k, k < n → P k → R k) → zcnt P n ≤ zcnt R n
  | 0, _ => Nat.le_refl _
  | n + 1, h => by
    have := zcnt_mono (P := P) (R := R) (n := n) (fun k hk => h k (Nat.lt_succ_of_lt hk))
    rw [zcnt, zcnt]
    by_cases q : P n
    · rw [ifN_t q, ifN_t (h n (Nat.lt_succ_self n) q)]; omega
    · rw [ifN_f q]; omega
theorem ha_st {C : zMS} (hV : KV C) {j p : Nat} (hp : p < cP C) (hj : j < 2 ^ 31) (hs : cSt C p = 2) (h1 : ¬ s_stands C (nI j) (nI p) < nI 1) : s_inVault C (nI j) = 0 := by
  have hI := KV_I hV
  have bP := CI_b19 hI
  have bM := CI_b20 hI
  have ej : nN (nI j) = j := nN_nI hj
  have ep : nN (nI p) = p := nN_nI (by omega)
  have g0 : cCx C (nI j) := Classical.byContradiction (fun z => h1 (by rw [s_stands_0 z]; decide))
  have g1 : cIn C (nN (nI j)) (nI p) := Classical.byContradiction (fun z => h1 (by rw [s_stands_1 g0 z]; decide))
  rw [s_stands_ok g0 g1, ej, ep] at h1
  rw [s_inVault_ok g0, ej]
  obtain ⟨j2, e, hj2, h28⟩ := g0
  obtain rfl := (nI_eq hj (by omega)).mp e
  refine Classical.byContradiction (fun z => h1 ?_)
  rw [hV.2.2.2.2 j hj2 h28 z p (by omega) (St_2.mp hs)]
  decide
