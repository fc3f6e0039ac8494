/-! what ends looks at: copies that come back, restores from all of them -/
theorem K_ch {C : zMS} (hV : KV C) {c : Nat} (hc : c < cM C) (h28 : C 28 c = 1) : ∀ d, d ∈ chN (cBs C) c → d ≤ c ∧ d < cM C ∧ C 28 d = 1 := by
  obtain ⟨M, hM⟩ := hV.1
  have hB : BD (cBs C) (mC M) := fun c hc => by rw [i_Bs hM hc]; exact i_BD hM c hc
  have hc' : c < mC M := by rw [← i_M hM]; exact hc
  intro d hd
  have h1 := chN_mem (i_n hM) hB (P := fun d => d ≤ c) (fun a b _ hb _ hp => by omega) (c + 1) c (Nat.lt_succ_self c) hc' (Nat.le_refl c) d hd
  have h2 := K_chain hM hc h28 d hd
  refine ⟨h1.2, by rw [i_M hM]; exact h1.1, ?_⟩
  rcases (i_cp hM h1.1).2.2.2.1 with ⟨q, -⟩ | ⟨-, q⟩
  · exact q
  · exact absurd h2.2 q
theorem chL_len {f : Nat → Int32} : ∀ (u c : Nat), (chL f u c).length ≤ u
  | 0, _ => Nat.le_refl _
  | u + 1, c => by
    rw [chL]
    by_cases h : f c = -1
    · rw [if_pos h]; simp
    · rw [if_neg h]
      have := chL_len (f := f) u (nN (f c))
      simp only [List.length_cons]; omega
/-- the copies up to i that are there lie in the vault -/
def E1 (C : zMS) (i : Nat) : Prop := ∀ d, d < i → C 28 d = 1 → ¬ C (43 + 8 * d) 0 = 0
noncomputable def bkC (C : zMS) (i : Nat) : zMS := bkN (cvC C i) i (cE (cvC C i) i - cF (cvC C i) i)
noncomputable def bkQ (C : zMS) (i : Nat) : Nat := bkK (cvC C i) i (cE (cvC C i) i - cF (cvC C i) i)
theorem bkK_le {C : zMS} {k : Nat} : ∀ i, bkK C k i ≤ i
  | 0 => Nat.le_refl _
  | i + 1 => by
    have := bkK_le (C := C) (k := k) i
    rw [bkK]
    by_cases q : ¬ C 14 (cF C k + i) = 0 ∧ ¬ bkN C k i (44 + 8 * k) (cF C k + i) = 0
    · rw [ifN_t q]; omega
    · rw [ifN_f q]; omega
theorem bkQ_le {C : zMS} (hI : CI C) (i : Nat) : bkQ C i ≤ 80 := by
  have h := bkK_le (C := cvC C i) (k := i) (cE (cvC C i) i - cF (cvC C i) i)
  have e : cE (cvC C i) i = cE C i := by unfold cE cvC; rw [up2_k (by omega)]
  have b := CI_b42 hI i
  unfold bkQ
  omega
theorem en_ca {C : zMS} {i : Nat} (hi : i < 2 ^ 31) (hx : cCx C (nI i)) : o_carries1 C (nI i) = (nI (bkQ C i), bkC C i) := by
  rw [o_carries1_ok hx, nN_nI hi]; rfl
theorem bkC_k {C : zMS} {i f : Nat} (h : f ≠ 43 + 8 * i ∧ f ≠ 44 + 8 * i ∧ f ≠ 45 + 8 * i) : bkC C i f = C f := by
  unfold bkC; rw [bkN_k _ _ h.2]; unfold cvC; exact up2_k h.1
theorem bkC_43 {C : zMS} {i : Nat} : bkC C i (43 + 8 * i) 0 = nI 1 := by
  unfold bkC; rw [bkN_k _ _ (by omega)]; unfold cvC; exact up2_s
theorem bkC_M {C : zMS} {i : Nat} : cM (bkC C i) = cM C := by unfold cM; rw [bkC_k (by omega)]
theorem en_E1 {C : zMS} {i : Nat} (hE : E1 C i) : E1 (bkC C i) (i + 1) := by
  intro d hd h28
  rw [bkC_k (by omega)] at h28
  by_cases q : d = i
  · subst q; rw [bkC_43]; decide
  · rw [bkC_k (by omega)]; exact hE d (by omega) h28
theorem en_Wh {C : zMS} (hV : KV C) {i : Nat} (hi : i < cM C) (h28 : C 28 i = 1) (hE : E1 C (i + 1)) : cWh C i := by
  intro d hd
  obtain ⟨h1, -, h3⟩ := K_ch hV hi h28 d hd
  exact hE d (by omega) h3
theorem en_no {C : zMS} {i : Nat} (hi : i < cM C) (hi2 : i < 2 ^ 31) (hE : E1 C i) (hs : s_size C (nI i) = (-2000000001)) (hI : CI C) : E1 C (i + 1) := by
  intro d hd h28
  by_cases q : d = i
  · subst q
    have b := CI_b42 hI (nN (nI d))
    rw [s_size_ok ⟨d, rfl, hi, h28⟩] at hs
    exact absurd (hs ▸ nI_pos' (by omega)) (by decide)
  · exact hE d (by omega) h28
/-! restores -/
noncomputable def rstC (C : zMS) (i : Nat) : zMS := gbA (chN (cBs C) i) C
theorem gbK_le {C : zMS} {k : Nat} : ∀ i, gbK C k i ≤ i
  | 0 => Nat.le_refl _
  | i + 1 => by
    have := gbK_le (C := C) (k := k) i
    rw [gbK]
    by_cases q : gbC (gbN C k i) k (cF C k + i)
    · rw [ifN_t q]; omega
    · rw [ifN_f q]; omega
theorem CI_gbN2 {C : zMS} {c : Nat} (hI : CI C) : CI (gbN C c (cE C c - cF C c)) := CI_gbN hI _
theorem gbB_le : ∀ (L : List Nat) {C : zMS}, CI C → gbB L C ≤ 80 * L.length
  | [], _, _ => Nat.le_refl _
  | c :: L, C, hI => by
    have h1 := gbK_le (C := C) (k := c) (cE C c - cF C c)
    have h2 := gbB_le L (CI_gbN2 (c := c) hI)
    have b := CI_b42 hI c
    rw [gbB, List.length_cons]
    omega
theorem rs_le {C : zMS} (hI : CI C) {i : Nat} (hi : i < 16) : gbB (chN (cBs C) i) C < 2 ^ 31 := by
  have h1 := gbB_le (chN (cBs C) i) hI
  have h2 := chL_len (f := cBs C) (i + 1) i
  unfold chN at *
  omega
/-- from C to C' nothing but pages of the book that a copy of L tells truly -/
def RR (L : List Nat) (C C' : zMS) : Prop := (∀ f, f ≠ 17 → f ≠ 18 → C' f = C f) ∧ ∀ p, (C' 17 p = C 17 p ∧ ∀ l, l < 4 → C' 18 (p * 4 + l) = C 18 (p * 4 + l)) ∨ (cTB C' p ∧ ∃ d, d ∈ L ∧ cTK C d p ∧ C 14 p = 0)
theorem RR_rf (L : List Nat) (C : zMS) : RR L C C := ⟨fun _ _ _ => rfl, fun _ => Or.inl ⟨rfl, fun _ _ => rfl⟩⟩
theorem TB_same {C C' : zMS} {p : Nat} (h : ∀ f, f ≠ 17 → f ≠ 18 → C' f = C f) (h17 : C' 17 p = C 17 p) (h18 : ∀ l, l < 4 → C' 18 (p * 4 + l) = C 18 (p * 4 + l)) : cTB C' p ↔ cTB C p := by
  unfold cTB Lk
  rw [h17, h 15 (by omega) (by omega), h 16 (by omega) (by omega)]
  exact ⟨fun ⟨a, b⟩ => ⟨a, fun l hl => by rw [← h18 l hl]; exact b l hl⟩, fun ⟨a, b⟩ => ⟨a, fun l hl => by rw [h18 l hl]; exact b l hl⟩⟩
theorem TK_same {C C' : zMS} {d p : Nat} (h : ∀ f, f ≠ 17 → f ≠ 18 → C' f = C f) : cTK C' d p ↔ cTK C d p := by
  unfold cTK Lk
  rw [h 15 (by omega) (by omega), h 16 (by omega) (by omega), h (44 + 8 * d) (by omega) (by omega), h (45 + 8 * d) (by omega) (by omega)]
theorem RR_tr {L : List Nat} {C C1 C2 : zMS} (h1 : RR L C C1) (h2 : RR L C1 C2) : RR L C C2 := by
  refine ⟨fun f a b => (h2.1 f a b).trans (h1.1 f a b), fun p => ?_⟩
  rcases h2.2 p with ⟨a, b⟩ | ⟨a, d, hd, b, c⟩
  · rcases h1.2 p with ⟨a1, b1⟩ | ⟨a1, d⟩
    · exact Or.inl ⟨a.trans a1, fun l hl => (b l hl).trans (b1 l hl)⟩
    · exact Or.inr ⟨(TB_same h2.1 a b).mpr a1, d⟩
  · exact Or.inr ⟨a, d, hd, (TK_same h1.1).mp b, by rw [← h1.1 14 (by omega) (by omega)]; exact c⟩
theorem RR_mono {L L' : List Nat} {C C1 : zMS} (hL : ∀ d, d ∈ L → d ∈ L') (h : RR L C C1) : RR L' C C1 :=
  ⟨h.1, fun p => (h.2 p).imp id (fun ⟨a, d, hd, b⟩ => ⟨a, d, hL d hd, b⟩)⟩
theorem RR_1 {C : zMS} {k j : Nat} : RR [k] C (gb1 C k j) := by
  by_cases q : gbC C k j
  · rw [gb1_y q]
    refine ⟨fun f a b => tkC_k ⟨a, b⟩, fun p => ?_⟩
    by_cases e : p = j
    · subst e
      refine Or.inr ⟨⟨?_, fun l hl => ?_⟩, k, List.mem_cons_self, q.2.2, q.1⟩
      · rw [tkC_f (by omega), tkC_k (by omega)]; exact q.2.2.1
      · rw [tkC_v (by omega) (by omega) hl, tkC_k (by omega)]; exact q.2.2.2 l hl
    · exact Or.inl ⟨tkC_fo (by omega) e, fun l hl => tkC_o (by omega) (by omega)⟩
  · rw [gb1_n q]; exact RR_rf _ _
theorem RR_N {C : zMS} {k : Nat} : ∀ {i : Nat}, RR [k] C (gbN C k i)
  | 0 => RR_rf _ _
  | i + 1 => RR_tr (RR_N (i := i)) RR_1
theorem RR_A : ∀ (L : List Nat) (C : zMS), RR L C (gbA L C)
  | [], C => RR_rf _ _
  | c :: L, C => by
    rw [gbA]
    exact RR_tr (RR_mono (fun d hd => by rw [List.mem_singleton.mp hd]; exact List.mem_cons_self) RR_N) (RR_mono (fun d hd => List.mem_cons_of_mem _ hd) (RR_A L _))
/-- a page that wants nothing of a copy wants nothing of it later -/
theorem gbC_n {L : List Nat} {C C' : zMS} {k j : Nat} (h : RR L C C') (q : ¬ gbC C k j) : ¬ gbC C' k j := by
  rintro ⟨a, b, c⟩
  rw [h.1 14 (by omega) (by omega)] at a
  rcases h.2 j with ⟨a1, b1⟩ | ⟨a1, -⟩
  · exact q ⟨a, fun z => b ((TB_same h.1 a1 b1).mpr z), (TK_same h.1).mp c⟩
  · exact b a1
theorem gb1_d {C : zMS} {k j : Nat} : ¬ gbC (gb1 C k j) k j := by
  by_cases q : gbC C k j
  · rcases (RR_1 (C := C) (k := k) (j := j)).2 j with ⟨a, -⟩ | ⟨a, -⟩
    · rintro ⟨-, b, -⟩
      refine b ?_
      rw [gb1_y q] at a ⊢
      refine ⟨?_, fun l hl => ?_⟩
      · rw [tkC_f (by omega), tkC_k (by omega)]; exact q.2.2.1
      · rw [tkC_v (by omega) (by omega) hl, tkC_k (by omega)]; exact q.2.2.2 l hl
    · exact fun z => z.2.1 a
  · rw [gb1_n q]; exact q
theorem gbN_d {C : zMS} {k : Nat} : ∀ {n i : Nat}, i < n → ¬ gbC (gbN C k n) k (cF C k + i)
  | 0, _, h => absurd h (Nat.not_lt_zero _)
  | n + 1, i, h => by
    rw [gbN]
    by_cases e : i = n
    · subst e; exact gb1_d
    · exact gbC_n RR_1 (gbN_d (by omega))
theorem gbA_d : ∀ (L : List Nat) (C : zMS) (c : Nat), c ∈ L → ∀ i, i < cE C c - cF C c → ¬ gbC (gbA L C) c (cF C c + i)
  | [], _, _, h, _, _ => absurd h List.not_mem_nil
  | c0 :: L, C, c, h, i, hi => by
    rw [gbA]
    by_cases q : c ∈ L
    · have e : ∀ f, f ≠ 17 → f ≠ 18 → gbN C c0 (cE C c0 - cF C c0) f = C f := RR_N.1
      have eE : cE (gbN C c0 (cE C c0 - cF C c0)) c = cE C c := congrArg nN (congrFun (e (42 + 8 * c) (by omega) (by omega)) 0)
      have eF : cF (gbN C c0 (cE C c0 - cF C c0)) c = cF C c := congrArg nN (congrFun (e (41 + 8 * c) (by omega) (by omega)) 0)
      have := gbA_d L (gbN C c0 (cE C c0 - cF C c0)) c q i (by rw [eE, eF]; exact hi)
      rw [eF] at this; exact this
    · have e : c = c0 := (List.mem_cons.mp h).resolve_right q
      subst e
      exact gbC_n (RR_A L _) (gbN_d hi)
theorem gbN_0 {C : zMS} {k : Nat} : ∀ {n : Nat}, (∀ i, i < n → ¬ gbC C k (cF C k + i)) → gbN C k n = C ∧ gbK C k n = 0
  | 0, _ => ⟨rfl, rfl⟩
  | n + 1, h => by
    obtain ⟨h1, h2⟩ := gbN_0 (n := n) (fun i hi => h i (by omega))
    rw [gbN, gbK, h1, h2, gb1_n (h n (Nat.lt_succ_self n)), ifN_f (h n (Nat.lt_succ_self n))]
    exact ⟨rfl, rfl⟩
theorem gbA_0 : ∀ {L : List Nat} {C : zMS}, (∀ c, c ∈ L → ∀ i, i < cE C c - cF C c → ¬ gbC C c (cF C c + i)) → gbA L C = C ∧ gbB L C = 0
  | [], _, _ => ⟨rfl, rfl⟩
  | c :: L, C, h => by
    obtain ⟨h1, h2⟩ := gbN_0 (n := cE C c - cF C c) (h c List.mem_cons_self)
    rw [gbA, gbB, h1, h2, Nat.zero_add]
    exact gbA_0 (fun d hd => h d (List.mem_cons_of_mem _ hd))
theorem rstC_RR (C : zMS) (i : Nat) : RR (chN (cBs C) i) C (rstC C i) := RR_A _ _
theorem rstC_ch {C : zMS} {i : Nat} : chN (cBs (rstC C i)) i = chN (cBs C) i := by
  have : cBs (rstC C i) = cBs C := by funext d; unfold cBs; rw [(rstC_RR C i).1 _ (by omega) (by omega)]
  rw [this]
theorem rstC_M {C : zMS} {i : Nat} : cM (rstC C i) = cM C := by unfold cM; rw [(rstC_RR C i).1 _ (by omega) (by omega)]
theorem rstC_P {C : zMS} {i : Nat} : cP (rstC C i) = cP C := by unfold cP; rw [(rstC_RR C i).1 _ (by omega) (by omega)]
theorem cx_s {C C' : zMS} (h : ∀ f, f ≠ 17 → f ≠ 18 → C' f = C f) {x : Int32} : cCx C' x ↔ cCx C x := by
  unfold cCx cM; rw [h 20 (by omega) (by omega), h 28 (by omega) (by omega)]
theorem wh_s {C : zMS} {i : Nat} : cWh (rstC C i) i ↔ cWh C i := by
  unfold cWh
  rw [rstC_ch]
  exact ⟨fun h d hd => by rw [← (rstC_RR C i).1 (43 + 8 * d) (by omega) (by omega)]; exact h d hd, fun h d hd => by rw [(rstC_RR C i).1 (43 + 8 * d) (by omega) (by omega)]; exact h d hd⟩
theorem en_r1 {C : zMS} {i : Nat} (hi : i < 2 ^ 31) (hx : cCx C (nI i)) (hw : cWh C i) : o_restores C (nI i) = (nI (gbB (chN (cBs C) i) C), rstC C i) := by
  rw [o_restores_ok hx (by rw [nN_nI hi]; exact hw), nN_nI hi]; rfl
theorem en_r2 {C : zMS} {i : Nat} (hi : i < 2 ^ 31) (hx : cCx C (nI i)) (hw : cWh C i) : o_restores (rstC C i) (nI i) = (nI 0, rstC C i) := by
  have hd : ∀ c, c ∈ chN (cBs C) i → ∀ q, q < cE (rstC C i) c - cF (rstC C i) c → ¬ gbC (rstC C i) c (cF (rstC C i) c + q) := fun c hc q hq => by
    have eE : cE (rstC C i) c = cE C c := by unfold cE; rw [(rstC_RR C i).1 _ (by omega) (by omega)]
    have eF : cF (rstC C i) c = cF C c := by unfold cF; rw [(rstC_RR C i).1 _ (by omega) (by omega)]
    rw [eE, eF] at hq
    rw [eF]
    exact gbA_d _ _ c hc q hq
  obtain ⟨h1, h2⟩ := gbA_0 hd
  rw [o_restores_ok ((cx_s (rstC_RR C i).1).mpr hx) (by rw [nN_nI hi]; exact wh_s.mpr hw), nN_nI hi, rstC_ch, h1, h2]
/-- behind the restores from the copies up to i, begun at C1 -/
def En (C1 C : zMS) (i : Nat) : Prop := (∀ f, f ≠ 17 → f ≠ 18 → C f = C1 f) ∧ (∀ p, p < cP C1 → cSt C p = 1 → cSt C1 p = 1) ∧ (∀ p, p < cP C1 → cSt C1 p = 1 → ¬ cHT C1 p (nI 1) → cSt C p = 1) ∧ ∀ d, d < i → C1 28 d = 1 → ∀ p, p < cP C1 → cTK C1 d p → ¬ cSt C p = 1
theorem En_0 (C : zMS) : En C C 0 := ⟨fun _ _ _ => rfl, fun _ _ h => h, fun _ _ h _ => h, fun d hd => absurd hd (Nat.not_lt_zero d)⟩
theorem St1_iff {C : zMS} {p : Nat} : cSt C p = 1 ↔ C 14 p = 0 ∧ C 17 p = 0 := by
  unfold cSt
  by_cases q : ¬ C 14 p = 0
  · rw [ifN_t q]; exact ⟨fun h => by omega, fun h => absurd h.1 q⟩
  · rw [ifN_f q]
    by_cases r : ¬ C 17 p = 0
    · rw [ifN_t r]; exact ⟨fun h => by omega, fun h => absurd h.2 r⟩
    · rw [ifN_f r]; exact ⟨fun _ => ⟨Classical.not_not.mp q, Classical.not_not.mp r⟩, fun _ => rfl⟩
theorem En_s {C1 C : zMS} (hV : KV C) {i : Nat} (hi : i < cM C) (h28 : C 28 i = 1) (hE : En C1 C i) : En C1 (rstC C i) (i + 1) := by
  have hR := rstC_RR C i
  obtain ⟨e1, e2, e3, e4⟩ := hE
  have bP := CI_b19 (KV_I hV)
  have eP : cP C1 = cP C := by unfold cP; rw [e1 19 (by omega) (by omega)]
  have e14 : rstC C i 14 = C 14 := hR.1 14 (by omega) (by omega)
  have nT : ∀ p, p < cP C → cTB (rstC C i) p → ¬ cSt (rstC C i) p = 1 := fun p hp z q => by
    have := (St1_iff.mp q).2
    rw [z.1, hR.1 15 (by omega) (by omega), K_15 hV hp] at this
    exact absurd this (by decide)
  have sm : ∀ p, rstC C i 17 p = C 17 p → (cSt (rstC C i) p = 1 ↔ cSt C p = 1) := fun p h => by rw [St1_iff, St1_iff, e14, h]
  refine ⟨fun f a b => (hR.1 f a b).trans (e1 f a b), fun p hp h => ?_, fun p hp h1 h2 => ?_, fun d hd h1 p hp h2 => ?_⟩
  · rcases hR.2 p with ⟨a, -⟩ | ⟨a, -⟩
    · exact e2 p hp ((sm p a).mp h)
    · exact absurd h (nT p (by omega) a)
  · rcases hR.2 p with ⟨a, -⟩ | ⟨-, d, hd, hk, -⟩
    · exact (sm p a).mpr (e3 p hp h1 h2)
    · obtain ⟨k1, k2, k3⟩ := K_ch hV hi h28 d hd
      refine absurd ⟨d, ?_, ?_, Or.inr (by decide), ?_⟩ h2
      · unfold cM; rw [← e1 20 (by omega) (by omega)]; exact k2
      · rw [← e1 28 (by omega) (by omega)]; exact k3
      · exact (TK_same e1).mp hk
  · intro q
    by_cases e : d = i
    · subst e
      have hk : cTK C d p := (TK_same e1).mpr h2
      have hf : ¬ C (44 + 8 * d) p = 0 := by rw [hk.1, K_15 hV (by omega)]; decide
      obtain ⟨r1, r2⟩ := K_in hV hi h28 (by omega) hf
      have hm : d ∈ chN (cBs C) d := by unfold chN; rw [chL]; exact List.mem_cons_self
      have := gbA_d (chN (cBs C) d) C d hm (p - cF C d) (by omega)
      rw [show cF C d + (p - cF C d) = p by omega] at this
      refine this ⟨?_, fun z => nT p (by omega) z q, (TK_same hR.1).mpr hk⟩
      exact (St1_iff.mp q).1
    · rcases hR.2 p with ⟨a, -⟩ | ⟨a, -⟩
      · exact e4 d (by omega) h1 p hp h2 ((sm p a).mp q)
      · exact nT p (by omega) a q
theorem En_n {C1 C : zMS} {i : Nat} (hi : i < cM C) (hn : ¬ cCx C (nI i)) (hE : En C1 C i) : En C1 C (i + 1) := by
  obtain ⟨e1, e2, e3, e4⟩ := hE
  refine ⟨e1, e2, e3, fun d hd h1 p hp h2 => ?_⟩
  by_cases e : d = i
  · subst e
    exact absurd ⟨d, rfl, hi, by rw [e1 28 (by omega) (by omega)]; exact h1⟩ hn
  · exact e4 d (by omega) h1 p hp h2
noncomputable def loN (C : zMS) : Nat := zcnt (fun p => cSt C p = 1 ∧ ¬ cHT C p (nI 1)) (cP C)
theorem HT_s {C C1 : zMS} (h : ∀ f, f ≠ 17 → f ≠ 18 → C f = C1 f) {p : Nat} {x : Int32} : cHT C p x ↔ cHT C1 p x := by
  unfold cHT cM
  rw [h 20 (by omega) (by omega), h 28 (by omega) (by omega)]
  constructor
  · rintro ⟨k, a, b, c, d⟩; exact ⟨k, a, b, by rw [← h (43 + 8 * k) (by omega) (by omega)]; exact c, (TK_same h).mp d⟩
  · rintro ⟨k, a, b, c, d⟩; exact ⟨k, a, b, by rw [h (43 + 8 * k) (by omega) (by omega)]; exact c, (TK_same h).mpr d⟩
theorem En_iff {C1 C : zMS} (hE : En C1 C (cM C1)) {p : Nat} (hp : p < cP C1) : cSt C p = 1 ↔ (cSt C1 p = 1 ∧ ¬ cHT C1 p (nI 1)) := by
  obtain ⟨e1, e2, e3, e4⟩ := hE
  exact ⟨fun h => ⟨e2 p hp h, fun ⟨k, a, b, _, d⟩ => e4 k a b p hp d h⟩, fun h => e3 p hp h.1 h.2⟩
theorem En_gaps {C1 C : zMS} (hE : En C1 C (cM C1)) : zcnt (fun p => cSt C p = 1) (cP C) = loN C1 := by
  unfold loN
  rw [show cP C = cP C1 by unfold cP; rw [hE.1 19 (by omega) (by omega)]]
  exact zcnt_cg (fun p hp => En_iff hE hp)
theorem En_lost {C1 C : zMS} (hE : En C1 C (cM C1)) : zcnt (fun p => cSt C p = 1 ∧ ¬ cHT C p (nI 1)) (cP C) = loN C1 := by
  unfold loN
  rw [show cP C = cP C1 by unfold cP; rw [hE.1 19 (by omega) (by omega)]]
  exact zcnt_cg (fun p hp => ⟨fun h => (En_iff hE hp).mp h.1, fun h => ⟨(En_iff hE hp).mpr h, fun z => h.2 ((HT_s hE.1).mp z)⟩⟩)
theorem E1_s {C C1 : zMS} (h : ∀ f, f ≠ 17 → f ≠ 18 → C f = C1 f) {i : Nat} (hE : E1 C1 i) : E1 C i := fun d hd h28 => by
  rw [h 28 (by omega) (by omega)] at h28
  rw [h (43 + 8 * d) (by omega) (by omega)]; exact hE d hd h28
theorem en_cf {C : zMS} (hV : KV C) (hE : E1 C (cM C)) {p : Nat} (hp : p < 80) (hs : cSt C p = 2) : cCF C p = 0 := by
  unfold cCF
  exact zcnt_0.mpr (fun k hk z => z.2 (hV.2.2.2.2 k hk z.1 (hE k hk z.1) p hp (St_2.mp hs)))
