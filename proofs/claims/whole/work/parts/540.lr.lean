/-! rows of the law's own: its script, its world -/
section ZLR
variable {X : zX} {own : String} {cc : ByteArray} {nL : Nat} {Ts : List Cond} {rm : Room} {D : va_G} {tys : List (ClassId × FieldType)} {A : Nat → Prop} {Q : State → Prop} {w : va_W} {k n : Nat} {lv : List (Nat × Value)} {pc : Nat} {st : List Value}
theorem z_sld (B : zB X own cc nL Ts rm D tys (zI1 D A (zs X))) {b L : Nat} {xs : Nat → Int32} (hX : va_X b L xs (zs X) (zs X).heap) (hbl : b < (zs X).heap.size) (hbA : ¬ A b) {j : Nat} (hj : j < L) (hL : L < 2 ^ 31) (hdg : decode cc pc = .ok (.iaload, 1)) (kk : zJ X nL (zI1 D A (zs X)) Q w k n lv (pc + 1) (.int (xs j) :: st)) : zJ X nL (zI1 D A (zs X)) Q w k n lv pc (.int (nI j) :: .ref b :: st) := by
  rintro H locs ls ⟨hP, hD, hS, hA⟩ hL2
  exact va_sld B.1 B.2.1 hX hbl hbA hS (vp_in_nI hj hL) hdg (by rw [nI_clamp (by omega)]; exact kk H locs ls ⟨hP, hD, hS, hA⟩ hL2)
theorem z_slen (B : zB X own cc nL Ts rm D tys (zI1 D A (zs X))) {b L : Nat} {xs : Nat → Int32} (hX : va_X b L xs (zs X) (zs X).heap) (hbl : b < (zs X).heap.size) (hbA : ¬ A b) (hdg : decode cc pc = .ok (.arraylength, 1)) (kk : zJ X nL (zI1 D A (zs X)) Q w k n lv (pc + 1) (.int (nI L) :: st)) : zJ X nL (zI1 D A (zs X)) Q w k n lv pc (.ref b :: st) := by
  rintro H locs ls ⟨hP, hD, hS, hA⟩ hL2
  exact va_slen B.1 B.2.1 hX hbl hbA hS hdg (kk H locs ls ⟨hP, hD, hS, hA⟩ hL2)
theorem z_lald {I : zII} (B : zB X own cc nL Ts rm D tys I) {cA : ClassId} {N a : Nat} {f : Nat → Int64} {i : Nat} (q t : Nat) (he : w[q]? = some (a, .inl (cA, N, .inr (.inl f)))) (ht : tys[t]? = some (cA, .long)) (hi : i < N) (hN : N < 2 ^ 31) (hdg : decode cc pc = .ok (.laload, 1)) (kk : zJ X nL I Q w k n lv (pc + 1) (.long (f i) :: st)) : zJ X nL I Q w k n lv pc (.int (nI i) :: .ref a :: st) := by
  intro H locs ls hI hL
  exact va_lald B.1 B.2.1 B.2.2.2.2.2.1 (B.2.2.2.2.2.2.1 w H locs hI) q t he ht (vp_in_nI hi hN) hdg (by rw [nI_clamp (by omega)]; exact kk H locs ls hI hL)
theorem z_tabIn {I : zII} (B : zB X own cc nL Ts rm D tys I) {dflt lo hi : Int} {offs : Array Int} {len : Nat} {x : Int32} {off : Int} (tgt : Nat) (hdg : decode cc pc = .ok (.tableswitch dflt lo hi offs, len)) (h1 : ¬ x.toInt < lo) (h2 : ¬ hi < x.toInt) (ho : offs[(x.toInt - lo).toNat]? = some off) (ht : (pc : Int) + off = (tgt : Int)) (kk : zJ X nL I Q w k n lv tgt st) : zJ X nL I Q w k n lv pc (.int x :: st) := by
  intro H locs ls hI hL
  exact lv_tableIn B.1 B.2.1 hdg h1 h2 ho ht (kk H locs ls hI hL)
theorem z_tabOut {I : zII} (B : zB X own cc nL Ts rm D tys I) {dflt lo hi : Int} {offs : Array Int} {len : Nat} {x : Int32} (tgt : Nat) (hdg : decode cc pc = .ok (.tableswitch dflt lo hi offs, len)) (h : x.toInt < lo ∨ hi < x.toInt) (ht : (pc : Int) + dflt = (tgt : Int)) (kk : zJ X nL I Q w k n lv tgt st) : zJ X nL I Q w k n lv pc (.int x :: st) := by
  intro H locs ls hI hL
  exact lv_tableOut B.1 B.2.1 hdg h ht (kk H locs ls hI hL)
/-- the addresses of the class's world are apart -/
theorem wC_fst (g : zG) (a : Nat → Nat) (C : zMS) (m : Nat) {i : Nat} (hi : i < 30 + m) : ∃ e, (wC g a C m)[i]? = some (a i, e) := by
  by_cases h : i < 30
  · have e1 : (wFx g a C).map Prod.fst = (List.range 30).map a := rfl
    have e2 : ((wFx g a C).map Prod.fst)[i]? = some (a i) := by rw [e1, List.getElem?_map, List.getElem?_range h]; rfl
    rw [List.getElem?_map] at e2
    unfold wC
    rw [List.getElem?_append_left (by rw [wFx_len]; exact h)]
    cases hq : (wFx g a C)[i]? with
    | none => rw [hq] at e2; cases e2
    | some q => rw [hq] at e2; exact ⟨q.2, by rw [show q = (q.1, q.2) from rfl, show q.1 = a i from Option.some.inj e2]⟩
  · obtain ⟨j, rfl⟩ : ∃ j, i = 30 + j := ⟨i - 30, by omega⟩
    exact ⟨_, wC_at (by omega)⟩
theorem z_dist {w1 : va_W} {x : Nat × va_E} {g : zG} {a : Nat → Nat} {C : zMS} {m : Nat} (kk : (∀ i j, i < 30 + m → j < 30 + m → a i = a j → i = j) → zJ X nL (zI1 D A (zs X)) Q (w1 ++ (x :: wC g a C m)) k n lv pc st) : zJ X nL (zI1 D A (zs X)) Q (w1 ++ (x :: wC g a C m)) k n lv pc st := by
  rintro H locs ls ⟨hP, hD, hS, hA⟩ hL
  refine kk (fun i j hi hj e => ?_) H locs ls ⟨hP, hD, hS, hA⟩ hL
  obtain ⟨e1, h1⟩ := wC_fst g a C m hi
  obtain ⟨e2, h2⟩ := wC_fst g a C m hj
  have l1 : (w1 ++ (x :: wC g a C m))[w1.length + (1 + i)]? = some (a i, e1) := by rw [List.getElem?_append_right (by omega), Nat.add_sub_cancel_left, Nat.add_comm 1 i, List.getElem?_cons_succ]; exact h1
  have l2 : (w1 ++ (x :: wC g a C m))[w1.length + (1 + j)]? = some (a j, e2) := by rw [List.getElem?_append_right (by omega), Nat.add_sub_cancel_left, Nat.add_comm 1 j, List.getElem?_cons_succ]; exact h2
  have := hD.1 _ _ _ _ l1 l2 e
  omega
end ZLR
theorem lg_cmp_rfl (x : Int64) : lg_cmp x x = nI 0 := by
  unfold lg_cmp
  rw [if_neg (by simp), if_pos rfl]; rfl
def zLaw (X : zX) (l : Launch) (D : va_G) (g : zG) (A : Nat → Prop) (b L : Nat) (xs : Nat → Int32) : Prop := zB X RL cL_law 7 wsL_law room_1 D (zT g) (zI1 D A (zs X)) ∧ zLF A (zs X) (zs X).heap ∧ va_X b L xs (zs X) (zs X).heap ∧ b < (zs X).heap.size ∧ ¬ A b ∧ L < 2 ^ 31 ∧ zl X = l ∧ l.stackTraces = false
def wLw (g : zG) (h0 : Nat) (am : Nat → Nat) (M : zMS) (o : Nat) (f : Nat → Int64) (a : Nat → Nat) (C : zMS) : va_W := wM g h0 am M ++ ((o, .inl (g.2.2.2, 1, .inr (.inl f))) :: wC g a C (4 * cM C))
def zKK (X : zX) (D : va_G) (g : zG) (A : Nat → Prop) (Q : State → Prop) (b o h0 a0 i k n : Nat) (am : Nat → Nat) : Prop := ∀ (M' C' : zMS) (f' : Nat → Int64) (a' : Nat → Nat), INV M' C' → a' 0 = a0 → zJ X 7 (zI1 D A (zs X)) Q (wLw g h0 am M' o f' a' C') (k + 6) (n + 419) [(0, .ref b), (1, .ref a0), (2, .ref h0), (3, .ref o), (4, .int (nI i))] 2506 []
theorem b01_rot {M C : zMS} (h : INV M C) {g : zG} {a : Nat → Nat} {x y : Int32} {r : Int32} {w2 : va_W} (hp : (fun r w' => r = C (44 + 8 * nN x) (nN y) ∧ w' = wC g a (blC C (44 + 8 * nN x) (45 + 8 * nN x) (nN y)) (4 * cM C) ∧ (cCx C x) ∧ (cIn C (nN x) y)) r w2) : r = 0 ∨ r = 1 := by
  have e := hp.1
  rw [e]; exact (CI_z44 h.2.1 _ _)
theorem r01_rot {M C : zMS} (h : INV M C) {x y : Int32} {r : Int32} {M' : zMS} (hm : (¬ pBo M x y → M' = up2 M 0 0 (nI 1)) ∧ (pBo M x y → r = M 21 (80 * nN x + nN y) ∧ M' = up2 (up2 M 0 0 (nI 0)) 21 (80 * nN x + nN y) (nI 0))) (h0 : M' 0 0 = nI 0) : r = 0 ∨ r = 1 := by
  by_cases q1 : pBo M x y
  · rw [(hm.2 q1).1]; exact MI_z21 h.1 _
  · exact absurd (h0.symm.trans ((congrFun (congrFun (hm.1 q1) 0) 0).trans up2_s)) (by decide)
theorem b01_isTrue {M C : zMS} (h : INV M C) {g : zG} {a : Nat → Nat} {x : Int32} {r : Int32} {w2 : va_W} (hp : (fun r w' => r = bI (cTB C (nN x)) ∧ w' = wC g a C (4 * cM C) ∧ (rng x (cP C))) r w2) : r = 0 ∨ r = 1 := by
  have e := hp.1
  rw [e]; exact (bI_or _)
theorem r01_isTrue {M C : zMS} (h : INV M C) {x : Int32} {r : Int32} {M' : zMS} (hm : (¬ rng x (mP M) → M' = up2 M 0 0 (nI 1)) ∧ (rng x (mP M) → r = bI (pTB M (nN x)) ∧ M' = up2 M 0 0 (nI 0))) (h0 : M' 0 0 = nI 0) : r = 0 ∨ r = 1 := by
  by_cases q1 : rng x (mP M)
  · rw [(hm.2 q1).1]; exact bI_or _
  · exact absurd (h0.symm.trans ((congrFun (congrFun (hm.1 q1) 0) 0).trans up2_s)) (by decide)
theorem b01_proves {M C : zMS} (h : INV M C) {g : zG} {a : Nat → Nat} {x y : Int32} {r : Int32} {w2 : va_W} (hp : (fun r w' => r = bI (fMk (C 1) (C 2) (nMk (nMk (nI 1) (C 7 (nN x))) y) (cD C) = C 9 (nN x)) ∧ w' = wC g a C (4 * cM C) ∧ (rng x (cP C)) ∧ (rng y 10000)) r w2) : r = 0 ∨ r = 1 := by
  have e := hp.1
  rw [e]; exact (bI_or _)
theorem r01_proves {M C : zMS} (h : INV M C) {x y : Int32} {r : Int32} {M' : zMS} (hm : (¬ rng x (mP M) → M' = up2 M 0 0 (nI 1)) ∧ (rng x (mP M) → ¬ rng y 10000 → M' = up2 M 0 0 (nI 2)) ∧ (rng x (mP M) → rng y 10000 → r = bI (mkD M (nN x) y = mkP M (nN x)) ∧ M' = up2 M 0 0 (nI 0))) (h0 : M' 0 0 = nI 0) : r = 0 ∨ r = 1 := by
  by_cases q1 : rng x (mP M)
  · by_cases q2 : rng y 10000
    · rw [(hm.2.2 q1 q2).1]; exact bI_or _
    · exact absurd (h0.symm.trans ((congrFun (congrFun (hm.2.1 q1 q2) 0) 0).trans up2_s)) (by decide)
  · exact absurd (h0.symm.trans ((congrFun (congrFun (hm.1 q1) 0) 0).trans up2_s)) (by decide)
theorem b01_isInVault {M C : zMS} (h : INV M C) {g : zG} {a : Nat → Nat} {x : Int32} {r : Int32} {w2 : va_W} (hp : (fun r w' => r = C (43 + 8 * nN x) 0 ∧ w' = wC g a C (4 * cM C) ∧ (cCx C x)) r w2) : r = 0 ∨ r = 1 := by
  have e := hp.1
  rw [e]; exact (CI_z43 h.2.1 _)
theorem r01_isInVault {M C : zMS} (h : INV M C) {x : Int32} {r : Int32} {M' : zMS} (hm : (¬ pCx M x → M' = up2 M 0 0 (nI 1)) ∧ (pCx M x → r = bI (M 20 (nN x) = 0) ∧ M' = up2 M 0 0 (nI 0))) (h0 : M' 0 0 = nI 0) : r = 0 ∨ r = 1 := by
  by_cases q1 : pCx M x
  · rw [(hm.2 q1).1]; exact bI_or _
  · exact absurd (h0.symm.trans ((congrFun (congrFun (hm.1 q1) 0) 0).trans up2_s)) (by decide)
theorem b01_stands {M C : zMS} (h : INV M C) {g : zG} {a : Nat → Nat} {x y : Int32} {r : Int32} {w2 : va_W} (hp : (fun r w' => r = C (44 + 8 * nN x) (nN y) ∧ w' = wC g a C (4 * cM C) ∧ (cCx C x) ∧ (cIn C (nN x) y)) r w2) : r = 0 ∨ r = 1 := by
  have e := hp.1
  rw [e]; exact (CI_z44 h.2.1 _ _)
theorem r01_stands {M C : zMS} (h : INV M C) {x y : Int32} {r : Int32} {M' : zMS} (hm : (¬ pBo M x y → M' = up2 M 0 0 (nI 1)) ∧ (pBo M x y → r = bI (pSt M (nN x) (nN y)) ∧ M' = up2 M 0 0 (nI 0))) (h0 : M' 0 0 = nI 0) : r = 0 ∨ r = 1 := by
  by_cases q1 : pBo M x y
  · rw [(hm.2 q1).1]; exact bI_or _
  · exact absurd (h0.symm.trans ((congrFun (congrFun (hm.1 q1) 0) 0).trans up2_s)) (by decide)
theorem b01_canRestore {M C : zMS} (h : INV M C) {g : zG} {a : Nat → Nat} {x : Int32} {r : Int32} {w2 : va_W} (hp : (fun r w' => r = bI (cWh C (nN x)) ∧ w' = wC g a C (4 * cM C) ∧ (cCx C x)) r w2) : r = 0 ∨ r = 1 := by
  have e := hp.1
  rw [e]; exact (bI_or _)
theorem r01_canRestore {M C : zMS} (h : INV M C) {x : Int32} {r : Int32} {M' : zMS} (hm : (¬ pCx M x → M' = up2 M 0 0 (nI 1)) ∧ (pCx M x → r = bI (pWh M (nN x)) ∧ M' = up2 M 0 0 (nI 0))) (h0 : M' 0 0 = nI 0) : r = 0 ∨ r = 1 := by
  by_cases q1 : pCx M x
  · rw [(hm.2 q1).1]; exact bI_or _
  · exact absurd (h0.symm.trans ((congrFun (congrFun (hm.1 q1) 0) 0).trans up2_s)) (by decide)
theorem b01_isOpen {M C : zMS} (h : INV M C) {g : zG} {a : Nat → Nat} {x : Int32} {r : Int32} {w2 : va_W} (hp : (fun r w' => r = C 21 (nN x) ∧ w' = wC g a C (4 * cM C) ∧ (rng x (cK C))) r w2) : r = 0 ∨ r = 1 := by
  have e := hp.1
  rw [e]; exact (CI_z21 h.2.1 _)
theorem r01_isOpen {M C : zMS} (h : INV M C) {x : Int32} {r : Int32} {M' : zMS} (hm : (¬ rng x (mK M) → M' = up2 M 0 0 (nI 1)) ∧ (rng x (mK M) → r = bI (M 24 (nN x) = 0) ∧ M' = up2 M 0 0 (nI 0))) (h0 : M' 0 0 = nI 0) : r = 0 ∨ r = 1 := by
  by_cases q1 : rng x (mK M)
  · rw [(hm.2 q1).1]; exact bI_or _
  · exact absurd (h0.symm.trans ((congrFun (congrFun (hm.1 q1) 0) 0).trans up2_s)) (by decide)
theorem b01_canStrike {M C : zMS} (h : INV M C) {g : zG} {a : Nat → Nat} {x y : Int32} {r : Int32} {w2 : va_W} (hp : (fun r w' => r = bI (cMay C (nN x) (nN y)) ∧ w' = wC g a C (4 * cM C) ∧ (rng x (cK C)) ∧ (rng y (cP C))) r w2) : r = 0 ∨ r = 1 := by
  have e := hp.1
  rw [e]; exact (bI_or _)
theorem r01_canStrike {M C : zMS} (h : INV M C) {x y : Int32} {r : Int32} {M' : zMS} (hm : (¬ rng x (mK M) → M' = up2 M 0 0 (nI 1)) ∧ (rng x (mK M) → ¬ rng y (mP M) → M' = up2 M 0 0 (nI 1)) ∧ (rng x (mK M) → rng y (mP M) → r = bI (pMay M (nN x) (nN y)) ∧ M' = up2 M 0 0 (nI 0))) (h0 : M' 0 0 = nI 0) : r = 0 ∨ r = 1 := by
  by_cases q1 : rng x (mK M)
  · by_cases q2 : rng y (mP M)
    · rw [(hm.2.2 q1 q2).1]; exact bI_or _
    · exact absurd (h0.symm.trans ((congrFun (congrFun (hm.2.1 q1 q2) 0) 0).trans up2_s)) (by decide)
  · exact absurd (h0.symm.trans ((congrFun (congrFun (hm.1 q1) 0) 0).trans up2_s)) (by decide)
