/-! pure words -/
def up2 (M : Nat → Nat → Int32) (k i : Nat) (x : Int32) : Nat → Nat → Int32 := fun k' => if k' = k then upd (M k') i x else M k'
theorem up2_s {M : Nat → Nat → Int32} {k i : Nat} {x : Int32} : up2 M k i x k i = x := by simp [up2, upd]
theorem up2_k {M : Nat → Nat → Int32} {k k' i : Nat} {x : Int32} (h : k' ≠ k) : up2 M k i x k' = M k' := by simp [up2, h]
theorem up2_i {M : Nat → Nat → Int32} {k i j : Nat} {x : Int32} (h : j ≠ i) : up2 M k i x k j = M k j := by simp [up2, upd, h]
theorem up2_a {M : Nat → Nat → Int32} {k i j : Nat} {x : Int32} : up2 M k i x k j = if j = i then x else M k j := by simp [up2, upd]
abbrev zMS : Type := Nat → Nat → Int32
abbrev zG : Type := ClassId × ClassId × ClassId × ClassId
def zT (g : zG) : List (ClassId × FieldType) := [(g.1, .int), (g.2.1, .boolean), (g.2.2.1, .object "LedgerKiln$Copy")]
def nN (x : Int32) : Nat := x.toNatClampNeg
theorem nN_nI {n : Nat} (h : n < 2 ^ 31) : nN (nI n) = n := nI_clamp h
def rng (x : Int32) (n : Nat) : Prop := ∃ j : Nat, j < n ∧ x = nI j
theorem i_nlt {a b : Int32} (h : ¬ a < b) : b ≤ a := Int32.not_lt.mp h
theorem i_nle {a b : Int32} (h : ¬ a ≤ b) : b < a := Int32.not_le.mp h
theorem rng_in {x : Int32} {n : Nat} (hn : n < 2 ^ 31) : (nI 0 ≤ x ∧ x ≤ nI n - nI 1) ↔ rng x n := by
  constructor
  · rintro ⟨h1, h2⟩
    obtain ⟨j, hj, rfl⟩ := nI_of (x := x) (by rw [Int32.not_lt]; exact h1)
    refine ⟨j, ?_, rfl⟩
    rcases Nat.eq_zero_or_pos n with rfl | h0
    · exact absurd h2 (by rw [Int32.not_le, Int32.lt_iff_toInt_lt, nI_toInt hj]; show (nI 0 - nI 1).toInt < _; have : (nI 0 - nI 1).toInt = -1 := by decide
                          omega)
    · rw [pk_sub h0] at h2
      have := (nI_leI hj (by omega)).mp h2
      omega
  · rintro ⟨j, hj, rfl⟩
    refine ⟨(nI_leI (by decide) (by omega)).mpr (Nat.zero_le _), ?_⟩
    rw [pk_sub (by omega)]
    exact (nI_leI (by omega) (by omega)).mpr (by omega)
theorem rng_in' {x : Int32} {n : Nat} (hn : n + 1 < 2 ^ 31) : (nI 0 ≤ x ∧ x ≤ nI n) ↔ rng x (n + 1) := by
  rw [← rng_in hn, show nI (n + 1) - nI 1 = nI n from nI_pred n]
theorem rng_nI {n j : Nat} (hj : j < 2 ^ 31) (hn : n < 2 ^ 31) : rng (nI j) n ↔ j < n := by
  constructor
  · rintro ⟨i, hi, h⟩
    rw [(nI_eq hj (by omega)).mp h]; exact hi
  · exact fun h => ⟨j, h, rfl⟩
noncomputable def ifI (P : Prop) (x y : Int32) : Int32 := @ite _ P (Classical.propDecidable P) x y
theorem ifI_t {P : Prop} {x y : Int32} (h : P) : ifI P x y = x := if_pos h
theorem ifI_f {P : Prop} {x y : Int32} (h : ¬ P) : ifI P x y = y := if_neg h
theorem ifI_cg {P R : Prop} {x y : Int32} (h : P ↔ R) : ifI P x y = ifI R x y := by rw [propext h]
noncomputable def ifN (P : Prop) (x y : Nat) : Nat := @ite _ P (Classical.propDecidable P) x y
theorem ifN_t {P : Prop} {x y : Nat} (h : P) : ifN P x y = x := if_pos h
theorem ifN_f {P : Prop} {x y : Nat} (h : ¬ P) : ifN P x y = y := if_neg h
theorem ifN_cg {P R : Prop} {x y : Nat} (h : P ↔ R) : ifN P x y = ifN R x y := by rw [propext h]
noncomputable def zcnt (P : Nat → Prop) : Nat → Nat
  | 0 => 0
  | n + 1 => zcnt P n + ifN (P n) 1 0
theorem zcnt_y {P : Nat → Prop} {n : Nat} (h : P n) : zcnt P n + 1 = zcnt P (n + 1) := by rw [zcnt, ifN_t h]
theorem zcnt_n {P : Nat → Prop} {n : Nat} (h : ¬ P n) : zcnt P n = zcnt P (n + 1) := by rw [zcnt, ifN_f h]; rfl
theorem zcnt_le (P : Nat → Prop) : ∀ n, zcnt P n ≤ n
  | 0 => Nat.le_refl _
  | n + 1 => by
    have h := zcnt_le P n
    rw [zcnt]
    by_cases q : P n
    · rw [ifN_t q]; omega
    · rw [ifN_f q]; omega
theorem zcnt_cg {P R : Nat → Prop} : ∀ {n : Nat}, (∀ k, k < n → (P k ↔ R k)) → zcnt P n = zcnt R n
  | 0, _ => rfl
  | n + 1, h => by rw [zcnt, zcnt, zcnt_cg (fun k hk => h k (Nat.lt_succ_of_lt hk)), ifN_cg (h n (Nat.lt_succ_self n))]
theorem zcnt_0 {P : Nat → Prop} : ∀ {n : Nat}, zcnt P n = 0 ↔ ∀ k, k < n → ¬ P k
  | 0 => ⟨fun _ k hk => absurd hk (Nat.not_lt_zero k), fun _ => rfl⟩
  | n + 1 => by
    rw [zcnt]
    by_cases q : P n
    · rw [ifN_t q]; exact ⟨fun h => absurd h (by omega), fun h => absurd q (h n (Nat.lt_succ_self n))⟩
    · rw [ifN_f q, Nat.add_zero, zcnt_0]
      exact ⟨fun h k hk => (Nat.lt_succ_iff_lt_or_eq.mp hk).elim (h k) (fun e => e ▸ q), fun h k hk => h k (Nat.lt_succ_of_lt hk)⟩
def zsum (f : Nat → Int32) : Nat → Int32
  | 0 => 0
  | n + 1 => zsum f n + f n
theorem zsum_cg {f r : Nat → Int32} : ∀ {n : Nat}, (∀ k, k < n → f k = r k) → zsum f n = zsum r n
  | 0, _ => rfl
  | n + 1, h => by rw [zsum, zsum, zsum_cg (fun k hk => h k (Nat.lt_succ_of_lt hk)), h n (Nat.lt_succ_self n)]
theorem all_s {P : Nat → Prop} {i : Nat} : (∀ l, l < i + 1 → P l) ↔ (∀ l, l < i → P l) ∧ P i :=
  ⟨fun h => ⟨fun l hl => h l (Nat.lt_succ_of_lt hl), h i (Nat.lt_succ_self i)⟩, fun h l hl => (Nat.lt_succ_iff_lt_or_eq.mp hl).elim (h.1 l) (fun e => e ▸ h.2)⟩
theorem ex_s {P : Nat → Prop} {i : Nat} : (∃ l, l < i + 1 ∧ P l) ↔ (∃ l, l < i ∧ P l) ∨ P i :=
  ⟨fun ⟨l, hl, h⟩ => (Nat.lt_succ_iff_lt_or_eq.mp hl).elim (fun q => Or.inl ⟨l, q, h⟩) (fun e => Or.inr (e ▸ h)), fun h => h.elim (fun ⟨l, hl, h⟩ => ⟨l, Nat.lt_succ_of_lt hl, h⟩) (fun h => ⟨i, Nat.lt_succ_self i, h⟩)⟩
theorem all_0 {P : Nat → Prop} : (∀ l, l < 0 → P l) ↔ True := ⟨fun _ => trivial, fun _ l hl => absurd hl (Nat.not_lt_zero l)⟩
theorem ex_0 {P : Nat → Prop} : (∃ l, l < 0 ∧ P l) ↔ False := ⟨fun ⟨l, hl, _⟩ => absurd hl (Nat.not_lt_zero l), False.elim⟩
theorem nI_z (n : Nat) : nI n + nI 0 = nI n := nI_add n 0
theorem pk_dec {n : Nat} (h : 0 < n) : nI n + Int32.ofInt (-1) = nI (n - 1) := by
  obtain ⟨k, rfl⟩ : ∃ k, n = k + 1 := ⟨n - 1, by omega⟩
  exact pk_m1 k
theorem I_add0 (x : Int32) : x + nI 0 = x := Int32.add_zero x
theorem I_0add (x : Int32) : nI 0 + x = x := Int32.zero_add x
/-! the reference's state: its fields by number, each a row of numbers -/
def wM (g : zG) (h : Nat) (a : Nat → Nat) (M : zMS) : va_W := (h, .inr (7, [.int (M 0 0), .int (M 1 0), .int (M 2 0), .ref (a 3), .ref (a 4), .int (M 5 0), .ref (a 6), .ref (a 7), .ref (a 8), .ref (a 9), .ref (a 10), .ref (a 11), .ref (a 12), .ref (a 13), .ref (a 14), .int (M 15 0), .ref (a 16), .ref (a 17), .ref (a 18), .ref (a 19), .ref (a 20), .ref (a 21), .ref (a 22), .int (M 23 0), .ref (a 24), .int (M 25 0), .ref (a 26), .ref (a 27), .ref (a 28), .ref (a 29)])) :: (a 3, .inl (g.1, 4, .inl (M 3))) :: (a 4, .inl (g.1, 4, .inl (M 4))) :: (a 6, .inl (g.1, 80, .inl (M 6))) :: (a 7, .inl (g.1, 80, .inl (M 7))) :: (a 8, .inl (g.1, 80, .inl (M 8))) :: (a 9, .inl (g.1, 320, .inl (M 9))) :: (a 10, .inl (g.1, 320, .inl (M 10))) :: (a 11, .inl (g.1, 320, .inl (M 11))) :: (a 12, .inl (g.1, 80, .inl (M 12))) :: (a 13, .inl (g.1, 80, .inl (M 13))) :: (a 14, .inl (g.2.1, 80, .inl (M 14))) :: (a 16, .inl (g.1, 16, .inl (M 16))) :: (a 17, .inl (g.1, 16, .inl (M 17))) :: (a 18, .inl (g.1, 16, .inl (M 18))) :: (a 19, .inl (g.2.1, 16, .inl (M 19))) :: (a 20, .inl (g.2.1, 16, .inl (M 20))) :: (a 21, .inl (g.2.1, 1280, .inl (M 21))) :: (a 22, .inl (g.1, 5120, .inl (M 22))) :: (a 24, .inl (g.2.1, 8, .inl (M 24))) :: (a 26, .inl (g.1, 30, .inl (M 26))) :: (a 27, .inl (g.1, 30, .inl (M 27))) :: (a 28, .inl (g.1, 30, .inl (M 28))) :: (a 29, .inl (g.1, 30, .inl (M 29))) :: []
def mP (M : zMS) : Nat := nN (M 5 0)
def mD (M : zMS) : Nat := nN (M 2 0)
def mC (M : zMS) : Nat := nN (M 15 0)
def mK (M : zMS) : Nat := nN (M 23 0)
def mH (M : zMS) : Nat := nN (M 25 0)
def mT (M : zMS) : Nat := nN (M 1 0)
def mL (M : zMS) (p : Nat) : Nat := nN (M 8 p)
def mF (M : zMS) (p : Nat) : Nat := nN (M 17 p)
def mE (M : zMS) (p : Nat) : Nat := nN (M 18 p)
/-- what holds of its numbers at any time -/
def MI (M : zMS) : Prop := (M 5 0 = nI (mP M) ∧ mP M ≤ 80) ∧ (M 2 0 = nI (mD M) ∧ mD M ≤ 4) ∧ (M 15 0 = nI (mC M) ∧ mC M ≤ 16) ∧ (M 23 0 = nI (mK M) ∧ mK M ≤ 8) ∧ (M 25 0 = nI (mH M) ∧ mH M ≤ 30) ∧ (M 1 0 = nI (mT M) ∧ mT M ≤ 400) ∧ (∀ p, M 8 p = nI (mL M p) ∧ mL M p ≤ 4) ∧ (∀ p, M 17 p = nI (mF M p) ∧ mF M p ≤ 80) ∧ (∀ p, M 18 p = nI (mE M p) ∧ mE M p ≤ 80) ∧ (∀ p, M 14 p = 0 ∨ M 14 p = 1) ∧ (∀ p, M 19 p = 0 ∨ M 19 p = 1) ∧ (∀ p, M 20 p = 0 ∨ M 20 p = 1) ∧ (∀ p, M 21 p = 0 ∨ M 21 p = 1) ∧ (∀ p, M 24 p = 0 ∨ M 24 p = 1)
theorem MI_5 {M : zMS} (h : MI M) : M 5 0 = nI (mP M) := h.1.1
theorem MI_b5 {M : zMS} (h : MI M) : mP M ≤ 80 := h.1.2
theorem MI_2 {M : zMS} (h : MI M) : M 2 0 = nI (mD M) := h.2.1.1
theorem MI_b2 {M : zMS} (h : MI M) : mD M ≤ 4 := h.2.1.2
theorem MI_15 {M : zMS} (h : MI M) : M 15 0 = nI (mC M) := h.2.2.1.1
theorem MI_b15 {M : zMS} (h : MI M) : mC M ≤ 16 := h.2.2.1.2
theorem MI_23 {M : zMS} (h : MI M) : M 23 0 = nI (mK M) := h.2.2.2.1.1
theorem MI_b23 {M : zMS} (h : MI M) : mK M ≤ 8 := h.2.2.2.1.2
theorem MI_25 {M : zMS} (h : MI M) : M 25 0 = nI (mH M) := h.2.2.2.2.1.1
theorem MI_b25 {M : zMS} (h : MI M) : mH M ≤ 30 := h.2.2.2.2.1.2
theorem MI_1 {M : zMS} (h : MI M) : M 1 0 = nI (mT M) := h.2.2.2.2.2.1.1
theorem MI_b1 {M : zMS} (h : MI M) : mT M ≤ 400 := h.2.2.2.2.2.1.2
theorem MI_8 {M : zMS} (h : MI M) (p : Nat) : M 8 p = nI (mL M p) := (h.2.2.2.2.2.2.1 p).1
theorem MI_b8 {M : zMS} (h : MI M) (p : Nat) : mL M p ≤ 4 := (h.2.2.2.2.2.2.1 p).2
theorem MI_17 {M : zMS} (h : MI M) (p : Nat) : M 17 p = nI (mF M p) := (h.2.2.2.2.2.2.2.1 p).1
theorem MI_b17 {M : zMS} (h : MI M) (p : Nat) : mF M p ≤ 80 := (h.2.2.2.2.2.2.2.1 p).2
theorem MI_18 {M : zMS} (h : MI M) (p : Nat) : M 18 p = nI (mE M p) := (h.2.2.2.2.2.2.2.2.1 p).1
theorem MI_b18 {M : zMS} (h : MI M) (p : Nat) : mE M p ≤ 80 := (h.2.2.2.2.2.2.2.2.1 p).2
theorem MI_z14 {M : zMS} (h : MI M) (p : Nat) : M 14 p = 0 ∨ M 14 p = 1 := h.2.2.2.2.2.2.2.2.2.1 p
theorem MI_z19 {M : zMS} (h : MI M) (p : Nat) : M 19 p = 0 ∨ M 19 p = 1 := h.2.2.2.2.2.2.2.2.2.2.1 p
theorem MI_z20 {M : zMS} (h : MI M) (p : Nat) : M 20 p = 0 ∨ M 20 p = 1 := h.2.2.2.2.2.2.2.2.2.2.2.1 p
theorem MI_z21 {M : zMS} (h : MI M) (p : Nat) : M 21 p = 0 ∨ M 21 p = 1 := h.2.2.2.2.2.2.2.2.2.2.2.2.1 p
theorem MI_z24 {M : zMS} (h : MI M) (p : Nat) : M 24 p = 0 ∨ M 24 p = 1 := h.2.2.2.2.2.2.2.2.2.2.2.2.2 p
theorem MI_bs {M : zMS} (h : MI M) : mP M ≤ 80 ∧ mD M ≤ 4 ∧ mC M ≤ 16 ∧ mK M ≤ 8 ∧ mH M ≤ 30 ∧ mT M ≤ 400 := ⟨MI_b5 h, MI_b2 h, MI_b15 h, MI_b23 h, MI_b25 h, MI_b1 h⟩
/-- a state that is alike in the fields that MI looks at -/
theorem MI_cg {M M1 : zMS} (h : MI M) (e : ∀ k, k = 1 ∨ k = 2 ∨ k = 5 ∨ k = 8 ∨ k = 14 ∨ k = 15 ∨ k = 17 ∨ k = 18 ∨ k = 19 ∨ k = 20 ∨ k = 21 ∨ k = 23 ∨ k = 24 ∨ k = 25 → M1 k = M k) : MI M1 := by
  unfold MI mP mD mC mK mH mT mL mF mE at h ⊢
  rw [e 1 (by omega), e 2 (by omega), e 5 (by omega), e 8 (by omega), e 14 (by omega), e 15 (by omega), e 17 (by omega), e 18 (by omega), e 19 (by omega), e 20 (by omega), e 21 (by omega), e 23 (by omega), e 24 (by omega), e 25 (by omega)]
  exact h
/-- a page stands in the book and is true -/
def pTB (M : zMS) (p : Nat) : Prop := M 12 p = 0 ∧ ∀ l, l < mL M p → M 11 (4 * p + l) = M 10 (4 * p + l)
def pHas (M : zMS) (c p : Nat) : Prop := mF M c ≤ p ∧ p < mE M c
def pSt (M : zMS) (c p : Nat) : Prop := pHas M c p ∧ ¬ M 21 (80 * c + p) = 0
def pTI (M : zMS) (c p : Nat) : Prop := pSt M c p ∧ ∀ l, l < mL M p → M 22 (4 * (80 * c + p) + l) = M 10 (4 * p + l)
def pCp (M : zMS) (c : Nat) : Prop := c < mC M ∧ M 19 c = 0
def pCx (M : zMS) (x : Int32) : Prop := ∃ c, x = nI c ∧ pCp M c
def pBo (M : zMS) (x y : Int32) : Prop := ∃ c p, x = nI c ∧ y = nI p ∧ pCp M c ∧ p < mP M ∧ pHas M c p
def pBase (M : zMS) (x : Int32) : Prop := ∃ k, k < mC M ∧ M 19 k = 0 ∧ M 16 k = x
/-- the numbers of a copy's chain -/
def hdI : List Nat → Int32
  | [] => -1
  | d :: _ => nI d
def isCh (n : Nat) (f : Nat → Int32) : List Nat → Prop
  | [] => True
  | d :: L => d < n ∧ f d = hdI L ∧ isCh n f L
def chL (f : Nat → Int32) : Nat → Nat → List Nat
  | 0, _ => []
  | u + 1, c => c :: if f c = -1 then [] else chL f u (nN (f c))
def chN (f : Nat → Int32) (c : Nat) : List Nat := chL f (c + 1) c
def MJ (M : zMS) : Prop := (∀ c, c < mC M → ∃ L, chN (M 16) c = c :: L ∧ isCh (mC M) (M 16) (c :: L)) ∧ ∀ c, c < mC M → mF M c ≤ mE M c ∧ mE M c ≤ mP M
def pWh (M : zMS) (c : Nat) : Prop := ∀ d, d ∈ chN (M 16) c → M 19 d = 0 ∧ M 20 d = 0
theorem nI_nm1 {n : Nat} (h : n < 2 ^ 31) : ¬ nI n = (-1) := fun e => absurd (e ▸ nI_pos' h) (by decide)
def pRR (M : zMS) (x : Int32) (p k l : Nat) : Prop := M 26 k = x ∧ (M 28 k ≤ M 6 p ∧ M 6 p ≤ M 29 k) ∧ M 9 (4 * p + l) = M 27 k
def pRe (M : zMS) (x : Int32) (p : Nat) : Prop := ∃ k, k < mH M ∧ ∃ l, l < mL M p ∧ pRR M x p k l
noncomputable def hB (P : Nat → Prop) : Nat → Int32
  | 0 => nI 0
  | k + 1 => hB P k ||| ifI (P k) (nI 1 <<< (nI k &&& 31)) (nI 0)
noncomputable def hS (M : zMS) (p : Nat) : Int32 := hB (fun k => M 24 k = 0 ∧ pRe M (nI k) p) (mK M)
theorem hB_y {P : Nat → Prop} {k : Nat} (h : P k) : hB P k ||| (nI 1 <<< (nI k &&& 31)) = hB P (k + 1) := by rw [hB, ifI_t h]
theorem hB_n {P : Nat → Prop} {k : Nat} (h : ¬ P k) : hB P k ||| nI 0 = hB P (k + 1) := by rw [hB, ifI_f h]
def pMay (M : zMS) (c p : Nat) : Prop := M 24 c = 0 ∧ pTB M p ∧ hS M p &&& ((nI 1 <<< (nI c &&& 31)) ^^^ (-1)) = 0
def nMk (m v : Int32) : Int32 := (nI 131 * m + nI 17 * v + nI 7) - (nI 131 * m + nI 17 * v + nI 7) / 1000003 * 1000003
def fMk (acc amt : Nat → Int32) (m0 : Int32) : Nat → Int32
  | 0 => m0
  | l + 1 => nMk (nMk (fMk acc amt m0 l) (acc l)) (amt l + nI 10000)
def mkP (M : zMS) (p : Nat) : Int32 := fMk (fun l => M 9 (4 * p + l)) (fun l => M 10 (4 * p + l)) (nMk (nMk (nI 1) (M 6 p)) (M 7 p)) (mL M p)
def mkD (M : zMS) (p : Nat) (x : Int32) : Int32 := fMk (M 3) (M 4) (nMk (nMk (nI 1) (M 6 p)) x) (mD M)
noncomputable def sOf (M : zMS) (f : Nat → Int32) (p : Nat) (x : Int32) : Int32 := zsum (fun l => ifI (M 9 (4 * p + l) = x) (f (4 * p + l)) (nI 0)) (mL M p)
noncomputable def bOf (M : zMS) (x y : Int32) : Int32 := zsum (fun p => ifI (y < M 6 p) (nI 0) (sOf M (M 10) p x)) (mP M)
def pFd (M : zMS) (p : Nat) (v : Int32) : Prop := ∃ k, k < mC M ∧ M 19 k = 0 ∧ (¬ v = 0 → M 20 k = 0) ∧ pTI M k p
theorem MI_up0 {M : zMS} {x : Int32} (h : MI M) : MI (up2 M 0 0 x) := h
theorem MJ_up0 {M : zMS} {x : Int32} (h : MJ M) : MJ (up2 M 0 0 x) := h
/-- pages written -/
def bgM (M : zMS) (x : Int32) : zMS := up2 (up2 (up2 (up2 (up2 (up2 M 6 (mP M) (nI (mT M))) 7 (mP M) x) 8 (mP M) (nI 0)) 12 (mP M) (nI 0)) 13 (mP M) (-1)) 5 0 (nI (mP M + 1))
def ptM (M : zMS) (p k : Nat) (x y : Int32) : zMS := up2 (up2 (up2 (up2 M 9 (4 * p + k) x) 10 (4 * p + k) y) 11 (4 * p + k) y) 8 p (nI (k + 1))
def ptN (M : zMS) (p : Nat) (f r : Nat → Int32) : Nat → zMS
  | 0 => M
  | i + 1 => ptM (ptN M p f r i) p i (f i) (r i)
theorem ptN_k (M : zMS) (p : Nat) (f r : Nat → Int32) {k : Nat} (h : k ≠ 8 ∧ k ≠ 9 ∧ k ≠ 10 ∧ k ≠ 11) : ∀ i, ptN M p f r i k = M k
  | 0 => rfl
  | i + 1 => by rw [ptN, ptM, up2_k h.1, up2_k h.2.2.2, up2_k h.2.2.1, up2_k h.2.1, ptN_k M p f r h i]
theorem ptN_8 (M : zMS) (p : Nat) (f r : Nat → Int32) (h : M 8 p = nI 0) : ∀ i, ptN M p f r i 8 p = nI i
  | 0 => h
  | i + 1 => by rw [ptN, ptM, up2_s]
def wrM (M : zMS) (x : Int32) : zMS := up2 (ptN (bgM (up2 M 0 0 (nI 0)) x) (mP M) (M 3) (M 4) (mD M)) 2 0 (nI 0)
def rvM (M : zMS) (p : Nat) : zMS := up2 (up2 (ptN (bgM (up2 M 0 0 (nI 0)) (M 7 p)) (mP M) (fun l => M 9 (4 * p + l)) (fun l => -(M 10 (4 * p + l))) (mL M p)) 14 (mP M) (nI 1)) 13 p (nI (mP M))
/-- pages burnt: from a, i of them -/
noncomputable def buN (M : zMS) (a : Nat) : Nat → zMS
  | 0 => M
  | i + 1 => up2 (buN M a i) 12 (a + i) (ifI (M 12 (a + i) = 0) (nI 1) (M 12 (a + i)))
theorem buN_k (M : zMS) (a : Nat) {k : Nat} (h : k ≠ 12) : ∀ i, buN M a i k = M k
  | 0 => rfl
  | i + 1 => by rw [buN, up2_k h, buN_k M a h i]
theorem buN_o (M : zMS) (a : Nat) {q : Nat} : ∀ i, (q < a ∨ a + i ≤ q) → buN M a i 12 q = M 12 q
  | 0, _ => rfl
  | i + 1, h => by rw [buN, up2_i (by omega), buN_o M a i (by omega)]
/-- a copy's pages: c the copy, from f, i of them; of the next one l legs -/
noncomputable def cpL (M : zMS) (c q : Nat) : Nat → zMS
  | 0 => M
  | l + 1 => up2 (cpL M c q l) 22 (4 * (80 * c + q) + l) (M 11 (4 * q + l))
noncomputable def cpH (M : zMS) (c q : Nat) : zMS := up2 M 21 (80 * c + q) (bI (M 12 q = 0))
noncomputable def cpN (M : zMS) (c a : Nat) : Nat → zMS
  | 0 => M
  | i + 1 => cpL (cpH (cpN M c a i) c (a + i)) c (a + i) 4
theorem cpL_k (M : zMS) (c q : Nat) {k : Nat} (h : k ≠ 22) : ∀ l, cpL M c q l k = M k
  | 0 => rfl
  | l + 1 => by rw [cpL, up2_k h, cpL_k M c q h l]
theorem cpN_k (M : zMS) (c a : Nat) {k : Nat} (h : k ≠ 22 ∧ k ≠ 21) : ∀ i, cpN M c a i k = M k
  | 0 => rfl
  | i + 1 => by rw [cpN, cpL_k _ _ _ h.1, cpH, up2_k h.2, cpN_k M c a h i]
def mc0 (M : zMS) (x : Int32) (f : Nat) : zMS := up2 (up2 (up2 (up2 (up2 M 16 (mC M) x) 17 (mC M) (nI f)) 18 (mC M) (nI (mP M))) 19 (mC M) (nI 0)) 20 (mC M) (nI 0)
noncomputable def mcM (M : zMS) (x : Int32) (f : Nat) : zMS := up2 (cpN (mc0 M x f) (mC M) f (mP M - f)) 15 0 (nI (mC M + 1))
/-- a copy brought back: of i pages those struck are lost -/
noncomputable def caN (M : zMS) (c : Nat) : Nat → zMS
  | 0 => M
  | i + 1 => up2 (caN M c i) 21 (80 * c + i) (ifI (M 12 i = nI 2 ∧ pSt M c i) (nI 0) (M 21 (80 * c + i)))
theorem caN_k (M : zMS) (c : Nat) {k : Nat} (h : k ≠ 21) : ∀ i, caN M c i k = M k
  | 0 => rfl
  | i + 1 => by rw [caN, up2_k h, caN_k M c h i]
theorem caN_o (M : zMS) (c : Nat) {q : Nat} : ∀ i, (q < 80 * c ∨ 80 * c + i ≤ q) → caN M c i 21 q = M 21 q
  | 0, _ => rfl
  | i + 1, h => by rw [caN, up2_i (by omega), caN_o M c i (by omega)]
theorem up2_id {M : zMS} {k i : Nat} {x : Int32} (h : x = M k i) : up2 M k i x = M := by
  funext a b
  unfold up2
  by_cases e : a = k
  · subst e
    rw [if_pos rfl]
    unfold upd
    by_cases e2 : b = i
    · subst e2; rw [if_pos rfl, h]
    · rw [if_neg e2]
  · rw [if_neg e]
/-- restoring -/
def rsL (M : zMS) (p : Nat) : Nat → zMS
  | 0 => M
  | l + 1 => up2 (rsL M p l) 11 (4 * p + l) (M 10 (4 * p + l))
theorem rsL_k (M : zMS) (p : Nat) {k : Nat} (h : k ≠ 11) : ∀ l, rsL M p l k = M k
  | 0 => rfl
  | l + 1 => by rw [rsL, up2_k h, rsL_k M p h l]
def rsC (M : zMS) (c p : Nat) : Prop := ¬ M 12 p = nI 2 ∧ ¬ pTB M p ∧ pTI M c p
noncomputable def rs1 (M : zMS) (c p : Nat) : zMS := @ite _ (rsC M c p) (Classical.propDecidable _) (rsL (up2 M 12 p (nI 0)) p 4) M
noncomputable def rsN (M : zMS) (c : Nat) : Nat → zMS
  | 0 => M
  | i + 1 => rs1 (rsN M c i) c i
noncomputable def rsK (M : zMS) (c : Nat) : Nat → Nat
  | 0 => 0
  | i + 1 => rsK M c i + ifN (rsC (rsN M c i) c i) 1 0
noncomputable def rsA (np : Nat) : List Nat → zMS → zMS
  | [], M => M
  | c :: L, M => rsA np L (rsN M c np)
noncomputable def rsB (np : Nat) : List Nat → zMS → Nat
  | [], _ => 0
  | c :: L, M => rsK M c np + rsB np L (rsN M c np)
theorem rs1_y {M : zMS} {c p : Nat} (h : rsC M c p) : rs1 M c p = rsL (up2 M 12 p (nI 0)) p 4 := if_pos h
theorem rs1_n {M : zMS} {c p : Nat} (h : ¬ rsC M c p) : rs1 M c p = M := if_neg h
theorem rsN_k (M : zMS) (c : Nat) {k : Nat} (h : k ≠ 12 ∧ k ≠ 11) : ∀ i, rsN M c i k = M k
  | 0 => rfl
  | i + 1 => by
    rw [rsN]
    by_cases q : rsC (rsN M c i) c i
    · rw [rs1_y q, rsL_k _ _ h.2, up2_k h.1, rsN_k M c h i]
    · rw [rs1_n q, rsN_k M c h i]
/-- a page struck in the copies 0 to i - 1 -/
noncomputable def skN (M : zMS) (p : Nat) : Nat → zMS
  | 0 => up2 M 12 p (nI 2)
  | i + 1 => up2 (skN M p i) 21 (80 * i + p) (ifI (M 20 i = 0 ∧ pHas M i p) (nI 0) (M 21 (80 * i + p)))
theorem skN_k (M : zMS) (p : Nat) {k : Nat} (h : k ≠ 12 ∧ k ≠ 21) : ∀ i, skN M p i k = M k
  | 0 => up2_k h.1
  | i + 1 => by rw [skN, up2_k h.2, skN_k M p h i]
theorem skN_o (M : zMS) {p q : Nat} (hp : p < 80) : ∀ i, (80 * i + p ≤ q) → skN M p i 21 q = M 21 q
  | 0, _ => by rw [skN, up2_k (by decide)]
  | i + 1, h => by rw [skN, up2_i (by omega), skN_o M hp i (by omega)]
noncomputable def skC (M : zMS) (p : Nat) : Nat → Nat := zcnt (fun k => M 19 k = 0 ∧ pSt (skN M p (k + 1)) k p)
def hoM (M : zMS) (x y : Int32) (f : Int32) (t : Int32) : zMS := up2 (up2 (up2 (up2 (up2 (up2 M 0 0 (nI 0)) 26 (mH M) x) 27 (mH M) y) 28 (mH M) f) 29 (mH M) t) 25 0 (nI (mH M + 1))
theorem MI_ho {M : zMS} {x y f t : Int32} (h : MI M) (hm : mH M < 30) : MI (hoM M x y f t) := by
  have e : MI (up2 M 25 0 (nI (mH M + 1))) := by
    unfold MI at h ⊢
    obtain ⟨h1, h2, h3, h4, h5, h6⟩ := h
    refine ⟨h1, h2, h3, h4, ⟨?_, ?_⟩, h6⟩
    · show nI (mH M + 1) = nI (nN (nI (mH M + 1)))
      rw [nN_nI (by omega)]
    · show nN (nI (mH M + 1)) ≤ 30
      rw [nN_nI (by omega)]; omega
  exact MI_cg e (fun k hk => by
    rcases hk with rfl | rfl | rfl | rfl | rfl | rfl | rfl | rfl | rfl | rfl | rfl | rfl | rfl | rfl <;> rfl)
theorem MI_buN {M : zMS} {a i : Nat} (h : MI M) : MI (buN M a i) := MI_cg h (fun k hk => buN_k M a (by omega) i)
theorem MI_rsN {M : zMS} {c i : Nat} (h : MI M) : MI (rsN M c i) := MI_cg h (fun k hk => rsN_k M c (by omega) i)
theorem MI_w21 {M M1 : zMS} (h : MI M) (e : ∀ k, k ≠ 21 → k ≠ 12 → M1 k = M k) (e2 : ∀ q, M1 21 q = 0 ∨ M1 21 q = 1) : MI M1 := by
  have e3 : MI (fun k => if k = 21 then M1 21 else M k) := by
    unfold MI at h ⊢
    exact ⟨h.1, h.2.1, h.2.2.1, h.2.2.2.1, h.2.2.2.2.1, h.2.2.2.2.2.1, h.2.2.2.2.2.2.1, h.2.2.2.2.2.2.2.1, h.2.2.2.2.2.2.2.2.1, h.2.2.2.2.2.2.2.2.2.1, h.2.2.2.2.2.2.2.2.2.2.1, h.2.2.2.2.2.2.2.2.2.2.2.1, e2, h.2.2.2.2.2.2.2.2.2.2.2.2.2⟩
  exact MI_cg e3 (fun k hk => by
    by_cases q : k = 21
    · subst q; rfl
    · rw [e k q (by omega)]; simp [q])
theorem ptN_o (M : zMS) (p : Nat) (f r : Nat → Int32) {k q : Nat} (h : k = 9 ∨ k = 10 ∨ k = 11) (hq : q < 4 * p) : ∀ i, ptN M p f r i k q = M k q
  | 0 => rfl
  | i + 1 => by
    rw [ptN, ptM, up2_k (by omega)]
    rcases h with rfl | rfl | rfl
    · rw [up2_k (by omega), up2_k (by omega), up2_i (by omega), ptN_o M p f r (Or.inl rfl) hq i]
    · rw [up2_k (by omega), up2_i (by omega), up2_k (by omega), ptN_o M p f r (Or.inr (Or.inl rfl)) hq i]
    · rw [up2_i (by omega), up2_k (by omega), up2_k (by omega), ptN_o M p f r (Or.inr (Or.inr rfl)) hq i]
theorem ptN_p (M : zMS) (p : Nat) (f r : Nat → Int32) {q : Nat} (hq : q ≠ p) : ∀ i, ptN M p f r i 8 q = M 8 q
  | 0 => rfl
  | i + 1 => by rw [ptN, ptM, up2_i hq, up2_k (by omega), up2_k (by omega), up2_k (by omega), ptN_p M p f r hq i]
def lgM (M : zMS) (x y : Int32) : zMS := up2 (up2 (up2 (up2 M 0 0 (nI 0)) 3 (mD M) x) 4 (mD M) y) 2 0 (nI (mD M + 1))
theorem MI_ub {M : zMS} {k i : Nat} {x : Int32} (h : MI M) (hk : k = 14 ∨ k = 19 ∨ k = 20 ∨ k = 21 ∨ k = 24) (hx : x = 0 ∨ x = 1) : MI (up2 M k i x) := by
  have e : ∀ k2 j, (M k2 j = 0 ∨ M k2 j = 1) → (up2 M k i x k2 j = 0 ∨ up2 M k i x k2 j = 1) := by
    intro k2 j hh
    by_cases q : k2 = k
    · subst q
      rw [up2_a]
      by_cases q2 : j = i
      · rw [if_pos q2]; exact hx
      · rw [if_neg q2]; exact hh
    · rw [up2_k q]; exact hh
  unfold MI mP mD mC mK mH mT mL mF mE at h ⊢
  obtain ⟨h1, h2, h3, h4, h5, h6, h7, h8, h9, h10, h11, h12, h13, h14⟩ := h
  rw [up2_k (show 5 ≠ k by omega), up2_k (show 2 ≠ k by omega), up2_k (show 15 ≠ k by omega), up2_k (show 23 ≠ k by omega), up2_k (show 25 ≠ k by omega), up2_k (show 1 ≠ k by omega), up2_k (show 8 ≠ k by omega), up2_k (show 17 ≠ k by omega), up2_k (show 18 ≠ k by omega)]
  exact ⟨h1, h2, h3, h4, h5, h6, h7, h8, h9, fun p => e _ _ (h10 p), fun p => e _ _ (h11 p), fun p => e _ _ (h12 p), fun p => e _ _ (h13 p), fun p => e _ _ (h14 p)⟩
theorem ifI_01 {P : Prop} {x y : Int32} (hx : x = 0 ∨ x = 1) (hy : y = 0 ∨ y = 1) : ifI P x y = 0 ∨ ifI P x y = 1 := by
  by_cases h : P
  · rw [ifI_t h]; exact hx
  · rw [ifI_f h]; exact hy
theorem MI_caN {M : zMS} {c : Nat} (h : MI M) : ∀ i, MI (caN M c i)
  | 0 => h
  | i + 1 => MI_ub (MI_caN h i) (by omega) (ifI_01 (Or.inl rfl) (MI_z21 h _))
theorem caN_St {M : zMS} {c i : Nat} : pSt (caN M c i) c i = pSt M c i := by
  unfold pSt pHas mF mE
  rw [caN_k M c (by decide), caN_k M c (by decide), caN_o M c i (Or.inr (Nat.le_refl _))]
theorem MI_sk0 {M : zMS} {p : Nat} {x : Int32} (h : MI M) : MI (up2 M 12 p x) := MI_cg h (fun k hk => up2_k (by omega))
theorem MI_skN {M : zMS} {p : Nat} (h : MI M) : ∀ i, MI (skN M p i)
  | 0 => MI_sk0 h
  | i + 1 => MI_ub (MI_skN h i) (by omega) (ifI_01 (Or.inl rfl) (MI_z21 h _))
theorem skN_Has {M : zMS} {p i c q : Nat} : pHas (skN M p i) c q = pHas M c q := by
  unfold pHas mF mE
  rw [skN_k M p (by decide), skN_k M p (by decide)]
theorem skN_n {M : zMS} {p i : Nat} (hp : p < 80) (h : ¬ (M 20 i = 0 ∧ pHas M i p)) : skN M p i = skN M p (i + 1) := by
  rw [skN, ifI_f h, up2_id (skN_o M hp i (Nat.le_refl _)).symm]
theorem skN_y {M : zMS} {p i : Nat} (h : M 20 i = 0 ∧ pHas M i p) : up2 (skN M p i) 21 (80 * i + p) (nI 0) = skN M p (i + 1) := by
  rw [skN, ifI_t h]
theorem caN_n {M : zMS} {c i : Nat} (h : ¬ (M 12 i = nI 2 ∧ pSt M c i)) : caN M c i = caN M c (i + 1) := by
  rw [caN, ifI_f h, up2_id (caN_o M c i (Or.inr (Nat.le_refl _))).symm]
theorem caN_y {M : zMS} {c i : Nat} (h : M 12 i = nI 2 ∧ pSt M c i) : up2 (caN M c i) 21 (80 * c + i) (nI 0) = caN M c (i + 1) := by
  rw [caN, ifI_t h]
noncomputable def bPg (M : zMS) (x y : Int32) : Int32 := zsum (fun p => ifI (y < M 6 p) (nI 0) (ifI (M 12 p = nI 2) (sOf M (M 10) p x) (sOf M (M 11) p x))) (mP M)
def pBu (M : zMS) (y : Int32) (n : Nat) : Prop := ∃ p, p < n ∧ ¬ y < M 6 p ∧ M 12 p = nI 1
def pAl (M : zMS) (y : Int32) (n : Nat) : Prop := ∀ p, p < n → y < M 6 p ∨ M 12 p = nI 2 ∨ pTB M p ∨ pFd M p (nI 1)
theorem up2_o8 {M : zMS} {x : Int32} {q : Nat} (h : q ≠ mP M) : bgM (up2 M 0 0 (nI 0)) x 8 q = M 8 q := by
  unfold bgM
  rw [up2_k (by decide), up2_k (by decide), up2_k (by decide), up2_i (show q ≠ mP (up2 M 0 0 (nI 0)) from h), up2_k (by decide), up2_k (by decide), up2_k (by decide)]
theorem bgM_8 {M : zMS} {x : Int32} : bgM (up2 M 0 0 (nI 0)) x 8 (mP M) = nI 0 := by
  unfold bgM
  rw [up2_k (by decide), up2_k (by decide), up2_k (by decide)]
  exact up2_s (M := up2 (up2 (up2 M 0 0 (nI 0)) 6 (mP M) (nI (mT (up2 M 0 0 (nI 0))))) 7 (mP M) x)
def pSm (M : zMS) (c p : Nat) : Prop := (bI (M 12 p = 0) = M 21 (80 * c + p)) ∧ (M 12 p = 0 → ∀ l, l < mL M p → M 22 (4 * (80 * c + p) + l) = M 11 (4 * p + l))
def pBl (M : zMS) (c n : Nat) : Prop := ∃ p, p < n ∧ pSt M c p ∧ ¬ hS M p = 0
