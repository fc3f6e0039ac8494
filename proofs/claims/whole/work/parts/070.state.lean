/-! pure words -/
def up2 (M : Nat → Nat → Int32) (k i : Nat) (x : Int32) : Nat → Nat → Int32 := fun k' => if k' = k then upd (M k') i x else M k'
theorem up2_s {M : Nat → Nat → Int32} {k i : Nat} {x : Int32} : up2 M k i x k i = x := by simp [up2, upd]
theorem up2_k {M : Nat → Nat → Int32} {k k' i : Nat} {x : Int32} (h : k' ≠ k) : up2 M k i x k' = M k' := by simp [up2, h]
theorem up2_i {M : Nat → Nat → Int32} {k i j : Nat} {x : Int32} (h : j ≠ i) : up2 M k i x k j = M k j := by simp [up2, upd, h]
theorem up2_a {M : Nat → Nat → Int32} {k i j : Nat} {x : Int32} : up2 M k i x k j = if j = i then x else M k j := by simp [up2, upd]
abbrev zMS : Type := Nat → Nat → Int32
abbrev zG : Type := ClassId × ClassId × ClassId × ClassId
def zT (g : zG) : List (ClassId × FieldType) := [(g.1, .int), (g.2.1, .boolean), (g.2.2.1, .object "LedgerKiln$Copy"), (g.2.2.2, .long)]
def nN (x : Int32) : Nat := x.toNatClampNeg
theorem nN_nI {n : Nat} (h : n < 2 ^ 31) : nN (nI n) = n := nI_clamp h
def rng (x : Int32) (n : Nat) : Prop := ∃ j : Nat, j < n ∧ x = nI j
theorem i_nlt {a b : Int32} (h : ¬ a < b) : b ≤ a := Int32.not_lt.mp h
theorem i_nle {a b : Int32} (h : ¬ a ≤ b) : b < a := Int32.not_le.mp h
theorem rng_in {x : Int32} {n : Nat} (hn : n < 2 ^ 31) : (nI 0 ≤ x ∧ x ≤ nI n - nI 1) ↔ rng x n := by
  constructor
  · rintro ⟨h1, h2⟩
    obtain ⟨j, hj, rfl⟩ := nI_of (x := x) (by rw [Int32.not_lt]; exact h1)
    refine ⟨j, ?_, rfl⟩
    rcases Nat.eq_zero_or_pos n with rfl | h0
    · exact absurd h2 (by rw [Int32.not_le, Int32.lt_iff_toInt_lt, nI_toInt hj]; show (nI 0 - nI 1).toInt < _; have : (nI 0 - nI 1).toInt = -1 := by decide
                          omega)
    · rw [pk_sub h0] at h2
      have := (nI_leI hj (by omega)).mp h2
      omega
  · rintro ⟨j, hj, rfl⟩
    refine ⟨(nI_leI (by decide) (by omega)).mpr (Nat.zero_le _), ?_⟩
    rw [pk_sub (by omega)]
    exact (nI_leI (by omega) (by omega)).mpr (by omega)
theorem rng_in' {x : Int32} {n : Nat} (hn : n + 1 < 2 ^ 31) : (nI 0 ≤ x ∧ x ≤ nI n) ↔ rng x (n + 1) := by
  rw [← rng_in hn, show nI (n + 1) - nI 1 = nI n from nI_pred n]
theorem rng_nI {n j : Nat} (hj : j < 2 ^ 31) (hn : n < 2 ^ 31) : rng (nI j) n ↔ j < n := by
  constructor
  · rintro ⟨i, hi, h⟩
    rw [(nI_eq hj (by omega)).mp h]; exact hi
  · exact fun h => ⟨j, h, rfl⟩
noncomputable def ifI (P : Prop) (x y : Int32) : Int32 := @ite _ P (Classical.propDecidable P) x y
theorem ifI_t {P : Prop} {x y : Int32} (h : P) : ifI P x y = x := if_pos h
theorem ifI_f {P : Prop} {x y : Int32} (h : ¬ P) : ifI P x y = y := if_neg h
theorem ifI_cg {P R : Prop} {x y : Int32} (h : P ↔ R) : ifI P x y = ifI R x y := by rw [propext h]
noncomputable def ifN (P : Prop) (x y : Nat) : Nat := @ite _ P (Classical.propDecidable P) x y
theorem ifN_t {P : Prop} {x y : Nat} (h : P) : ifN P x y = x := if_pos h
theorem ifN_f {P : Prop} {x y : Nat} (h : ¬ P) : ifN P x y = y := if_neg h
theorem ifN_cg {P R : Prop} {x y : Nat} (h : P ↔ R) : ifN P x y = ifN R x y := by rw [propext h]
noncomputable def zcnt (P : Nat → Prop) : Nat → Nat
  | 0 => 0
  | n + 1 => zcnt P n + ifN (P n) 1 0
theorem zcnt_y {P : Nat → Prop} {n : Nat} (h : P n) : zcnt P n + 1 = zcnt P (n + 1) := by rw [zcnt, ifN_t h]
theorem zcnt_n {P : Nat → Prop} {n : Nat} (h : ¬ P n) : zcnt P n = zcnt P (n + 1) := by rw [zcnt, ifN_f h]; rfl
theorem zcnt_le (P : Nat → Prop) : ∀ n, zcnt P n ≤ n
  | 0 => Nat.le_refl _
  | n + 1 => by
    have h := zcnt_le P n
    rw [zcnt]
    by_cases q : P n
    · rw [ifN_t q]; omega
    · rw [ifN_f q]; omega
theorem zcnt_cg {P R : Nat → Prop} : ∀ {n : Nat}, (∀ k, k < n → (P k ↔ R k)) → zcnt P n = zcnt R n
  | 0, _ => rfl
  | n + 1, h => by rw [zcnt, zcnt, zcnt_cg (fun k hk => h k (Nat.lt_succ_of_lt hk)), ifN_cg (h n (Nat.lt_succ_self n))]
theorem zcnt_0 {P : Nat → Prop} : ∀ {n : Nat}, zcnt P n = 0 ↔ ∀ k, k < n → ¬ P k
  | 0 => ⟨fun _ k hk => absurd hk (Nat.not_lt_zero k), fun _ => rfl⟩
  | n + 1 => by
    rw [zcnt]
    by_cases q : P n
    · rw [ifN_t q]; exact ⟨fun h => absurd h (by omega), fun h => absurd q (h n (Nat.lt_succ_self n))⟩
    · rw [ifN_f q, Nat.add_zero, zcnt_0]
      exact ⟨fun h k hk => (Nat.lt_succ_iff_lt_or_eq.mp hk).elim (h k) (fun e => e ▸ q), fun h k hk => h k (Nat.lt_succ_of_lt hk)⟩
def zsum (f : Nat → Int32) : Nat → Int32
  | 0 => 0
  | n + 1 => zsum f n + f n
theorem zsum_cg {f r : Nat → Int32} : ∀ {n : Nat}, (∀ k, k < n → f k = r k) → zsum f n = zsum r n
  | 0, _ => rfl
  | n + 1, h => by rw [zsum, zsum, zsum_cg (fun k hk => h k (Nat.lt_succ_of_lt hk)), h n (Nat.lt_succ_self n)]
theorem all_s {P : Nat → Prop} {i : Nat} : (∀ l, l < i + 1 → P l) ↔ (∀ l, l < i → P l) ∧ P i :=
  ⟨fun h => ⟨fun l hl => h l (Nat.lt_succ_of_lt hl), h i (Nat.lt_succ_self i)⟩, fun h l hl => (Nat.lt_succ_iff_lt_or_eq.mp hl).elim (h.1 l) (fun e => e ▸ h.2)⟩
theorem ex_s {P : Nat → Prop} {i : Nat} : (∃ l, l < i + 1 ∧ P l) ↔ (∃ l, l < i ∧ P l) ∨ P i :=
  ⟨fun ⟨l, hl, h⟩ => (Nat.lt_succ_iff_lt_or_eq.mp hl).elim (fun q => Or.inl ⟨l, q, h⟩) (fun e => Or.inr (e ▸ h)), fun h => h.elim (fun ⟨l, hl, h⟩ => ⟨l, Nat.lt_succ_of_lt hl, h⟩) (fun h => ⟨i, Nat.lt_succ_self i, h⟩)⟩
theorem all_0 {P : Nat → Prop} : (∀ l, l < 0 → P l) ↔ True := ⟨fun _ => trivial, fun _ l hl => absurd hl (Nat.not_lt_zero l)⟩
theorem ex_0 {P : Nat → Prop} : (∃ l, l < 0 ∧ P l) ↔ False := ⟨fun ⟨l, hl, _⟩ => absurd hl (Nat.not_lt_zero l), False.elim⟩
theorem nI_z (n : Nat) : nI n + nI 0 = nI n := nI_add n 0
theorem pk_dec {n : Nat} (h : 0 < n) : nI n + Int32.ofInt (-1) = nI (n - 1) := by
  obtain ⟨k, rfl⟩ : ∃ k, n = k + 1 := ⟨n - 1, by omega⟩
  exact pk_m1 k
theorem I_add0 (x : Int32) : x + nI 0 = x := Int32.add_zero x
theorem I_0add (x : Int32) : nI 0 + x = x := Int32.zero_add x
/-! the reference's state: its fields by number, each a row of numbers -/
def wM (g : zG) (h : Nat) (a : Nat → Nat) (M : zMS) : va_W := (h, .inr (7, [.int (M 0 0), .int (M 1 0), .int (M 2 0), .ref (a 3), .ref (a 4), .int (M 5 0), .ref (a 6), .ref (a 7), .ref (a 8), .ref (a 9), .ref (a 10), .ref (a 11), .ref (a 12), .ref (a 13), .ref (a 14), .int (M 15 0), .ref (a 16), .ref (a 17), .ref (a 18), .ref (a 19), .ref (a 20), .ref (a 21), .ref (a 22), .int (M 23 0), .ref (a 24), .int (M 25 0), .ref (a 26), .ref (a 27), .ref (a 28), .ref (a 29)])) :: (a 3, .inl (g.1, 4, .inl (M 3))) :: (a 4, .inl (g.1, 4, .inl (M 4))) :: (a 6, .inl (g.1, 80, .inl (M 6))) :: (a 7, .inl (g.1, 80, .inl (M 7))) :: (a 8, .inl (g.1, 80, .inl (M 8))) :: (a 9, .inl (g.1, 320, .inl (M 9))) :: (a 10, .inl (g.1, 320, .inl (M 10))) :: (a 11, .inl (g.1, 320, .inl (M 11))) :: (a 12, .inl (g.1, 80, .inl (M 12))) :: (a 13, .inl (g.1, 80, .inl (M 13))) :: (a 14, .inl (g.2.1, 80, .inl (M 14))) :: (a 16, .inl (g.1, 16, .inl (M 16))) :: (a 17, .inl (g.1, 16, .inl (M 17))) :: (a 18, .inl (g.1, 16, .inl (M 18))) :: (a 19, .inl (g.2.1, 16, .inl (M 19))) :: (a 20, .inl (g.2.1, 16, .inl (M 20))) :: (a 21, .inl (g.2.1, 1280, .inl (M 21))) :: (a 22, .inl (g.1, 5120, .inl (M 22))) :: (a 24, .inl (g.2.1, 8, .inl (M 24))) :: (a 26, .inl (g.1, 30, .inl (M 26))) :: (a 27, .inl (g.1, 30, .inl (M 27))) :: (a 28, .inl (g.1, 30, .inl (M 28))) :: (a 29, .inl (g.1, 30, .inl (M 29))) :: []
def mP (M : zMS) : Nat := nN (M 5 0)
def mD (M : zMS) : Nat := nN (M 2 0)
def mC (M : zMS) : Nat := nN (M 15 0)
def mK (M : zMS) : Nat := nN (M 23 0)
def mH (M : zMS) : Nat := nN (M 25 0)
def mT (M : zMS) : Nat := nN (M 1 0)
def mL (M : zMS) (p : Nat) : Nat := nN (M 8 p)
def mF (M : zMS) (p : Nat) : Nat := nN (M 17 p)
def mE (M : zMS) (p : Nat) : Nat := nN (M 18 p)
/-- what holds of its numbers at any time -/
def MI (M : zMS) : Prop := (M 5 0 = nI (mP M) ∧ mP M ≤ 80) ∧ (M 2 0 = nI (mD M) ∧ mD M ≤ 4) ∧ (M 15 0 = nI (mC M) ∧ mC M ≤ 16) ∧ (M 23 0 = nI (mK M) ∧ mK M ≤ 8) ∧ (M 25 0 = nI (mH M) ∧ mH M ≤ 30) ∧ (M 1 0 = nI (mT M) ∧ mT M ≤ 400) ∧ (∀ p, M 8 p = nI (mL M p) ∧ mL M p ≤ 4) ∧ (∀ p, M 17 p = nI (mF M p) ∧ mF M p ≤ 80) ∧ (∀ p, M 18 p = nI (mE M p) ∧ mE M p ≤ 80) ∧ (∀ p, M 14 p = 0 ∨ M 14 p = 1) ∧ (∀ p, M 19 p = 0 ∨ M 19 p = 1) ∧ (∀ p, M 20 p = 0 ∨ M 20 p = 1) ∧ (∀ p, M 21 p = 0 ∨ M 21 p = 1) ∧ (∀ p, M 24 p = 0 ∨ M 24 p = 1)
theorem MI_5 {M : zMS} (h : MI M) : M 5 0 = nI (mP M) := h.1.1
theorem MI_b5 {M : zMS} (h : MI M) : mP M ≤ 80 := h.1.2
theorem MI_2 {M : zMS} (h : MI M) : M 2 0 = nI (mD M) := h.2.1.1
theorem MI_b2 {M : zMS} (h : MI M) : mD M ≤ 4 := h.2.1.2
theorem MI_15 {M : zMS} (h : MI M) : M 15 0 = nI (mC M) := h.2.2.1.1
theorem MI_b15 {M : zMS} (h : MI M) : mC M ≤ 16 := h.2.2.1.2
theorem MI_23 {M : zMS} (h : MI M) : M 23 0 = nI (mK M) := h.2.2.2.1.1
theorem MI_b23 {M : zMS} (h : MI M) : mK M ≤ 8 := h.2.2.2.1.2
theorem MI_25 {M : zMS} (h : MI M) : M 25 0 = nI (mH M) := h.2.2.2.2.1.1
theorem MI_b25 {M : zMS} (h : MI M) : mH M ≤ 30 := h.2.2.2.2.1.2
theorem MI_1 {M : zMS} (h : MI M) : M 1 0 = nI (mT M) := h.2.2.2.2.2.1.1
theorem MI_b1 {M : zMS} (h : MI M) : mT M ≤ 400 := h.2.2.2.2.2.1.2
theorem MI_8 {M : zMS} (h : MI M) (p : Nat) : M 8 p = nI (mL M p) := (h.2.2.2.2.2.2.1 p).1
theorem MI_b8 {M : zMS} (h : MI M) (p : Nat) : mL M p ≤ 4 := (h.2.2.2.2.2.2.1 p).2
theorem MI_17 {M : zMS} (h : MI M) (p : Nat) : M 17 p = nI (mF M p) := (h.2.2.2.2.2.2.2.1 p).1
theorem MI_b17 {M : zMS} (h : MI M) (p : Nat) : mF M p ≤ 80 := (h.2.2.2.2.2.2.2.1 p).2
theorem MI_18 {M : zMS} (h : MI M) (p : Nat) : M 18 p = nI (mE M p) := (h.2.2.2.2.2.2.2.2.1 p).1
theorem MI_b18 {M : zMS} (h : MI M) (p : Nat) : mE M p ≤ 80 := (h.2.2.2.2.2.2.2.2.1 p).2
theorem MI_z14 {M : zMS} (h : MI M) (p : Nat) : M 14 p = 0 ∨ M 14 p = 1 := h.2.2.2.2.2.2.2.2.2.1 p
theorem MI_z19 {M : zMS} (h : MI M) (p : Nat) : M 19 p = 0 ∨ M 19 p = 1 := h.2.2.2.2.2.2.2.2.2.2.1 p
theorem MI_z20 {M : zMS} (h : MI M) (p : Nat) : M 20 p = 0 ∨ M 20 p = 1 := h.2.2.2.2.2.2.2.2.2.2.2.1 p
theorem MI_z21 {M : zMS} (h : MI M) (p : Nat) : M 21 p = 0 ∨ M 21 p = 1 := h.2.2.2.2.2.2.2.2.2.2.2.2.1 p
theorem MI_z24 {M : zMS} (h : MI M) (p : Nat) : M 24 p = 0 ∨ M 24 p = 1 := h.2.2.2.2.2.2.2.2.2.2.2.2.2 p
theorem MI_bs {M : zMS} (h : MI M) : mP M ≤ 80 ∧ mD M ≤ 4 ∧ mC M ≤ 16 ∧ mK M ≤ 8 ∧ mH M ≤ 30 ∧ mT M ≤ 400 := ⟨MI_b5 h, MI_b2 h, MI_b15 h, MI_b23 h, MI_b25 h, MI_b1 h⟩
/-- a state that is alike in the fields that MI looks at -/
theorem MI_cg {M M1 : zMS} (h : MI M) (e : ∀ k, k = 1 ∨ k = 2 ∨ k = 5 ∨ k = 8 ∨ k = 14 ∨ k = 15 ∨ k = 17 ∨ k = 18 ∨ k = 19 ∨ k = 20 ∨ k = 21 ∨ k = 23 ∨ k = 24 ∨ k = 25 → M1 k = M k) : MI M1 := by
  unfold MI mP mD mC mK mH mT mL mF mE at h ⊢
  rw [e 1 (by omega), e 2 (by omega), e 5 (by omega), e 8 (by omega), e 14 (by omega), e 15 (by omega), e 17 (by omega), e 18 (by omega), e 19 (by omega), e 20 (by omega), e 21 (by omega), e 23 (by omega), e 24 (by omega), e 25 (by omega)]
  exact h
/-- a page stands in the book and is true -/
def pTB (M : zMS) (p : Nat) : Prop := M 12 p = 0 ∧ ∀ l, l < mL M p → M 11 (4 * p + l) = M 10 (4 * p + l)
def pHas (M : zMS) (c p : Nat) : Prop := mF M c ≤ p ∧ p < mE M c
def pSt (M : zMS) (c p : Nat) : Prop := pHas M c p ∧ ¬ M 21 (80 * c + p) = 0
def pTI (M : zMS) (c p : Nat) : Prop := pSt M c p ∧ ∀ l, l < mL M p → M 22 (4 * (80 * c + p) + l) = M 10 (4 * p + l)
def pCp (M : zMS) (c : Nat) : Prop := c < mC M ∧ M 19 c = 0
def pCx (M : zMS) (x : Int32) : Prop := ∃ c, x = nI c ∧ pCp M c
def pBase (M : zMS) (x : Int32) : Prop := ∃ k, k < mC M ∧ M 19 k = 0 ∧ M 16 k = x
/-- the numbers of a copy's chain -/
def chL (M : zMS) : Nat → Nat → List Nat
  | 0, _ => []
  | f + 1, c => c :: if M 16 c = -1 then [] else chL M f (nN (M 16 c))
def pWh (M : zMS) (c : Nat) : Prop := ∀ d, d ∈ chL M (c + 1) c → M 19 d = 0 ∧ M 20 d = 0
def pRe (M : zMS) (x : Int32) (p : Nat) : Prop := ∃ k, k < mH M ∧ M 26 k = x ∧ (M 28 k ≤ M 6 p ∧ M 6 p ≤ M 29 k) ∧ ∃ l, l < mL M p ∧ M 9 (4 * p + l) = M 27 k
noncomputable def hB (M : zMS) (p : Nat) : Nat → Int32
  | 0 => 0
  | k + 1 => hB M p k ||| ifI (M 24 k = 0 ∧ pRe M (nI k) p) (nI 1 <<< (nI k &&& 31)) 0
noncomputable def hS (M : zMS) (p : Nat) : Int32 := hB M p (mK M)
def nMk (m v : Int32) : Int32 := (131 * m + 17 * v + 7) - (131 * m + 17 * v + 7) / 1000003 * 1000003
def fMk (acc amt : Nat → Int32) (m0 : Int32) : Nat → Int32
  | 0 => m0
  | l + 1 => nMk (nMk (fMk acc amt m0 l) (acc l)) (amt l + nI 10000)
def mkP (M : zMS) (p : Nat) : Int32 := fMk (fun l => M 9 (4 * p + l)) (fun l => M 10 (4 * p + l)) (nMk (nMk 1 (M 6 p)) (M 7 p)) (mL M p)
noncomputable def sOf (M : zMS) (f : Nat → Int32) (p : Nat) (x : Int32) : Int32 := zsum (fun l => ifI (M 9 (4 * p + l) = x) (f (4 * p + l)) 0) (mL M p)
noncomputable def bOf (M : zMS) (x y : Int32) : Int32 := zsum (fun p => ifI (M 6 p ≤ y) (sOf M (M 10) p x) 0) (mP M)
def pFd (M : zMS) (p : Nat) (v : Prop) : Prop := ∃ k, k < mC M ∧ M 19 k = 0 ∧ (v → M 20 k = 0) ∧ pTI M k p
