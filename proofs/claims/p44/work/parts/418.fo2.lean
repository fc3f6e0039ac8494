/-! the wrappers' contracts, as functions -/
theorem fo_isTrue (l : Launch) (D : va_G) (g : zG) (a : Nat → Nat) (C : zMS) (hst : l.stackTraces = false) (hI : CI C) (x : Int32) : zWrp l yL_isTrue wsL_isTrue { frames := 8, cells := 1, slots := 6, locals := 124 } D (zT g) (wC g a C (4 * cM C)) [.ref (a 0), .int x] (rPost g a C (s_isTrue C x)) 1 6 := by
  refine wr_isTrue l D g (a 0) (wC g a C (4 * cM C)) _ rfl x _ _ (rPost g a C (s_isTrue C x)) ?_ ?_ ?_ ?_ (cc_X6_isTrue l D g a C (4 * cM C) hst hI x).L
  · rintro r w' ⟨rfl, rfl, g0⟩
    exact ⟨by rw [s_isTrue_ok g0], rfl⟩
  · rintro E w' ⟨rfl, ⟨rfl, n0⟩⟩
    exact ⟨by rw [xcd_B, s_isTrue_0 n0], rfl⟩
  · rintro E w' ⟨_, rfl, _⟩
    exact rfl
  · rintro r w' ⟨rfl, -⟩; exact bI_or _
theorem fo_text (l : Launch) (D : va_G) (g : zG) (a : Nat → Nat) (C : zMS) (hst : l.stackTraces = false) (hI : CI C) (x : Int32) : zWrp l yL_text wsL_text { frames := 8, cells := 1, slots := 6, locals := 124 } D (zT g) (wC g a C (4 * cM C)) [.ref (a 0), .int x] (rPost g a C (s_text C x)) 1 6 := by
  refine wr_text l D g (a 0) (wC g a C (4 * cM C)) _ rfl x _ _ (rPost g a C (s_text C x)) ?_ ?_ ?_ (cc_X6_text l D g a C (4 * cM C) hst hI x).L
  · rintro r w' ⟨rfl, rfl, g0⟩
    exact ⟨by rw [s_text_ok g0], rfl⟩
  · rintro E w' ⟨rfl, ⟨rfl, n0⟩⟩
    exact ⟨by rw [xcd_B, s_text_0 n0], rfl⟩
  · rintro E w' ⟨_, rfl, _⟩
    exact rfl
theorem fo_mark (l : Launch) (D : va_G) (g : zG) (a : Nat → Nat) (C : zMS) (hst : l.stackTraces = false) (hI : CI C) (x : Int32) : zWrp l yL_mark wsL_mark { frames := 8, cells := 1, slots := 6, locals := 124 } D (zT g) (wC g a C (4 * cM C)) [.ref (a 0), .int x] (rPost g a C (s_mark C x)) 1 6 := by
  refine wr_mark l D g (a 0) (wC g a C (4 * cM C)) _ rfl x _ _ (rPost g a C (s_mark C x)) ?_ ?_ ?_ (cc_X6_mark l D g a C (4 * cM C) hst hI x).L
  · rintro r w' ⟨rfl, rfl, g0⟩
    exact ⟨by rw [s_mark_ok g0], rfl⟩
  · rintro E w' ⟨rfl, ⟨rfl, n0⟩⟩
    exact ⟨by rw [xcd_B, s_mark_0 n0], rfl⟩
  · rintro E w' ⟨_, rfl, _⟩
    exact rfl
theorem fo_reversal (l : Launch) (D : va_G) (g : zG) (a : Nat → Nat) (C : zMS) (hst : l.stackTraces = false) (hI : CI C) (x : Int32) : zWrp l yL_reversal wsL_reversal { frames := 8, cells := 1, slots := 6, locals := 124 } D (zT g) (wC g a C (4 * cM C)) [.ref (a 0), .int x] (rPost g a C (s_reversal C x)) 1 6 := by
  refine wr_reversal l D g (a 0) (wC g a C (4 * cM C)) _ rfl x _ _ (rPost g a C (s_reversal C x)) ?_ ?_ ?_ (cc_X6_reversal l D g a C (4 * cM C) hst hI x).L
  · rintro r w' ⟨rfl, rfl, g0⟩
    exact ⟨by rw [s_reversal_ok g0], rfl⟩
  · rintro E w' ⟨rfl, ⟨rfl, n0⟩⟩
    exact ⟨by rw [xcd_B, s_reversal_0 n0], rfl⟩
  · rintro E w' ⟨_, rfl, _⟩
    exact rfl
theorem fo_proves (l : Launch) (D : va_G) (g : zG) (a : Nat → Nat) (C : zMS) (hst : l.stackTraces = false) (hI : CI C) (x : Int32) (y : Int32) : zWrp l yL_proves wsL_proves { frames := 8, cells := 2, slots := 12, locals := 125 } D (zT g) (wC g a C (4 * cM C)) [.ref (a 0), .int x, .int y] (rPost g a C (s_proves C x y)) 2 12 := by
  refine wr_proves l D g (a 0) (wC g a C (4 * cM C)) _ rfl x y _ _ (rPost g a C (s_proves C x y)) ?_ ?_ ?_ ?_ (cc_X6_proves l D g a C (4 * cM C) hst hI x y).L
  · rintro r w' ⟨rfl, rfl, g0, g1⟩
    exact ⟨by rw [s_proves_ok g0 g1], rfl⟩
  · rintro E w' ⟨rfl, (⟨rfl, n0⟩ | ⟨rfl, g0, n1⟩)⟩
    · exact ⟨by rw [xcd_B, s_proves_0 n0], rfl⟩
    · exact ⟨by rw [xcd_A, s_proves_1 g0 n1], rfl⟩
  · rintro E w' ⟨_, ⟨rfl, _⟩ | ⟨rfl, _⟩⟩
    · exact (Or.inl rfl)
    · exact (Or.inr rfl)
  · rintro r w' ⟨rfl, -⟩; exact bI_or _
theorem fo_proven (l : Launch) (D : va_G) (g : zG) (a : Nat → Nat) (C : zMS) (hst : l.stackTraces = false) (hI : CI C) (x : Int32) (y : Int32) : zWrp l yL_proven wsL_proven { frames := 8, cells := 2, slots := 12, locals := 125 } D (zT g) (wC g a C (4 * cM C)) [.ref (a 0), .int x, .int y] (rPost g a C (s_proven C x y)) 2 12 := by
  refine wr_proven l D g (a 0) (wC g a C (4 * cM C)) _ rfl x y _ _ (rPost g a C (s_proven C x y)) ?_ ?_ ?_ (cc_X6_proven l D g a C (4 * cM C) hst hI x y).L
  · rintro r w' ⟨rfl, rfl, g0, g1⟩
    exact ⟨by rw [s_proven_ok g0 g1], rfl⟩
  · rintro E w' ⟨rfl, (⟨rfl, n0⟩ | ⟨rfl, g0, n1⟩)⟩
    · exact ⟨by rw [xcd_B, s_proven_0 n0], rfl⟩
    · exact ⟨by rw [xcd_B, s_proven_1 g0 n1], rfl⟩
  · rintro E w' ⟨_, ⟨rfl, _⟩ | ⟨rfl, _⟩⟩
    · exact rfl
    · exact rfl
theorem fo_balance (l : Launch) (D : va_G) (g : zG) (a : Nat → Nat) (C : zMS) (hst : l.stackTraces = false) (hI : CI C) (x : Int32) (y : Int32) : zWrp l yL_balance wsL_balance { frames := 8, cells := 2, slots := 12, locals := 128 } D (zT g) (wC g a C (4 * cM C)) [.ref (a 0), .int x, .int y] (rPost g a C (s_balance C x y)) 2 12 := by
  refine wr_balance l D g (a 0) (wC g a C (4 * cM C)) _ rfl x y _ _ (rPost g a C (s_balance C x y)) ?_ ?_ ?_ (cc_X6_balance l D g a C (4 * cM C) hst hI x y).L
  · rintro r w' ⟨⟨e, he, rfl⟩, rfl, g0, g1⟩
    exact ⟨by rw [s_balance_ok g0 g1, ← cUE_eq he], rfl⟩
  · rintro E w' ⟨rfl, (⟨rfl, n0⟩ | ⟨rfl, g0, n1⟩)⟩
    · exact ⟨by rw [xcd_B, s_balance_0 n0], rfl⟩
    · exact ⟨by rw [xcd_A, s_balance_1 g0 n1], rfl⟩
  · rintro E w' ⟨_, ⟨rfl, _⟩ | ⟨rfl, _⟩⟩
    · exact (Or.inl rfl)
    · exact (Or.inr rfl)
theorem fo_byPages (l : Launch) (D : va_G) (g : zG) (a : Nat → Nat) (C : zMS) (hst : l.stackTraces = false) (hI : CI C) (x : Int32) (y : Int32) : zWrp l yL_byPages wsL_byPages { frames := 8, cells := 3, slots := 18, locals := 129 } D (zT g) (wC g a C (4 * cM C)) [.ref (a 0), .int x, .int y] (rPost g a C (s_byPages C x y)) 3 18 := by
  refine wr_byPages l D g (a 0) (wC g a C (4 * cM C)) _ rfl x y _ _ (rPost g a C (s_byPages C x y)) ?_ ?_ ?_ (cc_X6_balanceByPages l D g a C (4 * cM C) hst hI x y).L
  · rintro r w' ⟨⟨e, he, rfl⟩, rfl, g0, g1, g2⟩
    exact ⟨by rw [s_byPages_ok g0 g1 g2, ← cUE_eq he], rfl⟩
  · rintro E w' ⟨rfl, (⟨rfl, n0⟩ | ⟨rfl, g0, n1⟩ | ⟨rfl, g0, g1, n2⟩)⟩
    · exact ⟨by rw [xcd_B, s_byPages_0 n0], rfl⟩
    · exact ⟨by rw [xcd_A, s_byPages_1 g0 n1], rfl⟩
    · exact ⟨by rw [xcd_S, s_byPages_2 g0 g1 n2], rfl⟩
  · rintro E w' ⟨_, ⟨rfl, _⟩ | ⟨rfl, _⟩ | ⟨rfl, _⟩⟩
    · exact (Or.inl rfl)
    · exact (Or.inr (Or.inl rfl))
    · exact (Or.inr (Or.inr rfl))
theorem fo_byCopies (l : Launch) (D : va_G) (g : zG) (a : Nat → Nat) (C : zMS) (hst : l.stackTraces = false) (hI : CI C) (x : Int32) (y : Int32) : zWrp l yL_byCopies wsL_byCopies { frames := 8, cells := 3, slots := 18, locals := 138 } D (zT g) (wC g a C (4 * cM C)) [.ref (a 0), .int x, .int y] (rPost g a C (s_byCopies C x y)) 3 18 := by
  refine wr_byCopies l D g (a 0) (wC g a C (4 * cM C)) _ rfl x y _ _ (rPost g a C (s_byCopies C x y)) ?_ ?_ ?_ (cc_X6_balanceByCopies l D g a C (4 * cM C) hst hI (Nat.le_refl _) x y).L
  · rintro r w' ⟨⟨e, he, rfl⟩, rfl, g0, g1, g2⟩
    exact ⟨by rw [s_byCopies_ok g0 g1 g2, ← cUE_eq he], rfl⟩
  · rintro E w' ⟨rfl, (⟨rfl, n0⟩ | ⟨rfl, g0, n1⟩ | ⟨rfl, g0, g1, n2⟩)⟩
    · exact ⟨by rw [xcd_B, s_byCopies_0 n0], rfl⟩
    · exact ⟨by rw [xcd_A, s_byCopies_1 g0 n1], rfl⟩
    · exact ⟨by rw [xcd_S, s_byCopies_2 g0 g1 n2], rfl⟩
  · rintro E w' ⟨_, ⟨rfl, _⟩ | ⟨rfl, _⟩ | ⟨rfl, _⟩⟩
    · exact (Or.inl rfl)
    · exact (Or.inr (Or.inl rfl))
    · exact (Or.inr (Or.inr rfl))
theorem fo_size (l : Launch) (D : va_G) (g : zG) (a : Nat → Nat) (C : zMS) (hst : l.stackTraces = false) (hI : CI C) (hJ : CJ C) (x : Int32) : zWrp l yL_size wsL_size { frames := 8, cells := 1, slots := 6, locals := 126 } D (zT g) (wC g a C (4 * cM C)) [.ref (a 0), .int x] (rPost g a C (s_size C x)) 1 6 := by
  refine wr_size l D g (a 0) (wC g a C (4 * cM C)) _ rfl x _ _ (rPost g a C (s_size C x)) ?_ ?_ ?_ (cc_X6_size l D g a C (4 * cM C) hst hI (Nat.le_refl _) hJ x).L
  · rintro r w' ⟨rfl, rfl, g0⟩
    exact ⟨by rw [s_size_ok g0], rfl⟩
  · rintro E w' ⟨rfl, ⟨rfl, n0⟩⟩
    exact ⟨by rw [xcd_B, s_size_0 n0], rfl⟩
  · rintro E w' ⟨_, rfl, _⟩
    exact rfl
theorem fo_inVault (l : Launch) (D : va_G) (g : zG) (a : Nat → Nat) (C : zMS) (hst : l.stackTraces = false) (hI : CI C) (x : Int32) : zWrp l yL_inVault wsL_inVault { frames := 8, cells := 1, slots := 6, locals := 126 } D (zT g) (wC g a C (4 * cM C)) [.ref (a 0), .int x] (rPost g a C (s_inVault C x)) 1 6 := by
  refine wr_inVault l D g (a 0) (wC g a C (4 * cM C)) _ rfl x _ _ (rPost g a C (s_inVault C x)) ?_ ?_ ?_ ?_ (cc_X6_isInVault l D g a C (4 * cM C) hst hI (Nat.le_refl _) x).L
  · rintro r w' ⟨rfl, rfl, g0⟩
    exact ⟨by rw [s_inVault_ok g0], rfl⟩
  · rintro E w' ⟨rfl, ⟨rfl, n0⟩⟩
    exact ⟨by rw [xcd_B, s_inVault_0 n0], rfl⟩
  · rintro E w' ⟨_, rfl, _⟩
    exact rfl
  · rintro r w' ⟨rfl, -⟩; exact CI_z43 hI _
theorem fo_stands (l : Launch) (D : va_G) (g : zG) (a : Nat → Nat) (C : zMS) (hst : l.stackTraces = false) (hI : CI C) (x : Int32) (y : Int32) : zWrp l yL_stands wsL_stands { frames := 8, cells := 2, slots := 12, locals := 127 } D (zT g) (wC g a C (4 * cM C)) [.ref (a 0), .int x, .int y] (rPost g a C (s_stands C x y)) 2 12 := by
  refine wr_stands l D g (a 0) (wC g a C (4 * cM C)) _ rfl x y _ _ (rPost g a C (s_stands C x y)) ?_ ?_ ?_ ?_ (cc_X6_stands l D g a C (4 * cM C) hst hI (Nat.le_refl _) x y).L
  · rintro r w' ⟨rfl, rfl, g0, g1⟩
    exact ⟨by rw [s_stands_ok g0 g1], rfl⟩
  · rintro E w' ⟨rfl, (⟨rfl, n0⟩ | ⟨rfl, g0, n1⟩)⟩
    · exact ⟨by rw [xcd_B, s_stands_0 n0], rfl⟩
    · exact ⟨by rw [xcd_B, s_stands_1 g0 n1], rfl⟩
  · rintro E w' ⟨_, ⟨rfl, _⟩ | ⟨rfl, _⟩⟩
    · exact rfl
    · exact rfl
  · rintro r w' ⟨rfl, -⟩; exact CI_z44 hI _ _
theorem fo_copiesOf (l : Launch) (D : va_G) (g : zG) (a : Nat → Nat) (C : zMS) (hst : l.stackTraces = false) (hI : CI C) (x : Int32) : zWrp l yL_copiesOf wsL_copiesOf { frames := 8, cells := 1, slots := 6, locals := 124 } D (zT g) (wC g a C (4 * cM C)) [.ref (a 0), .int x] (rPost g a C (s_copiesOf C x)) 1 6 := by
  refine wr_copiesOf l D g (a 0) (wC g a C (4 * cM C)) _ rfl x _ _ (rPost g a C (s_copiesOf C x)) ?_ ?_ ?_ (cc_X6_copiesOf l D g a C (4 * cM C) hst hI (Nat.le_refl _) x).L
  · rintro r w' ⟨rfl, rfl, g0⟩
    exact ⟨by rw [s_copiesOf_ok g0], rfl⟩
  · rintro E w' ⟨rfl, ⟨rfl, n0⟩⟩
    exact ⟨by rw [xcd_B, s_copiesOf_0 n0], rfl⟩
  · rintro E w' ⟨_, rfl, _⟩
    exact rfl
theorem fo_canRestore (l : Launch) (D : va_G) (g : zG) (a : Nat → Nat) (C : zMS) (hst : l.stackTraces = false) (hI : CI C) (hJ : CJ C) (x : Int32) : zWrp l yL_canRestore wsL_canRestore { frames := 8, cells := 1, slots := 6, locals := 126 } D (zT g) (wC g a C (4 * cM C)) [.ref (a 0), .int x] (rPost g a C (s_canRestore C x)) 1 6 := by
  refine wr_canRestore l D g (a 0) (wC g a C (4 * cM C)) _ rfl x _ _ (rPost g a C (s_canRestore C x)) ?_ ?_ ?_ ?_ (cc_X6_canRestore l D g a C (4 * cM C) hst hI (Nat.le_refl _) hJ x).L
  · rintro r w' ⟨rfl, rfl, g0⟩
    exact ⟨by rw [s_canRestore_ok g0], rfl⟩
  · rintro E w' ⟨rfl, ⟨rfl, n0⟩⟩
    exact ⟨by rw [xcd_B, s_canRestore_0 n0], rfl⟩
  · rintro E w' ⟨_, rfl, _⟩
    exact rfl
  · rintro r w' ⟨rfl, -⟩; exact bI_or _
theorem fo_audit (l : Launch) (D : va_G) (g : zG) (a : Nat → Nat) (C : zMS) (hst : l.stackTraces = false) (hI : CI C) (hJ : CJ C) (x : Int32) : zWrp l yL_audit wsL_audit { frames := 8, cells := 1, slots := 6, locals := 128 } D (zT g) (wC g a C (4 * cM C)) [.ref (a 0), .int x] (rPost g a C (s_audit C x)) 1 6 := by
  refine wr_audit l D g (a 0) (wC g a C (4 * cM C)) _ rfl x _ _ (rPost g a C (s_audit C x)) ?_ ?_ ?_ (cc_X6_audit l D g a C (4 * cM C) hst hI (Nat.le_refl _) hJ x).L
  · rintro r w' ⟨rfl, rfl, g0⟩
    exact ⟨by rw [s_audit_ok g0], rfl⟩
  · rintro E w' ⟨rfl, ⟨rfl, n0⟩⟩
    exact ⟨by rw [xcd_B, s_audit_0 n0], rfl⟩
  · rintro E w' ⟨_, rfl, _⟩
    exact rfl
theorem fo_isOpen (l : Launch) (D : va_G) (g : zG) (a : Nat → Nat) (C : zMS) (hst : l.stackTraces = false) (hI : CI C) (x : Int32) : zWrp l yL_isOpen wsL_isOpen { frames := 8, cells := 1, slots := 6, locals := 124 } D (zT g) (wC g a C (4 * cM C)) [.ref (a 0), .int x] (rPost g a C (s_isOpen C x)) 1 6 := by
  refine wr_isOpen l D g (a 0) (wC g a C (4 * cM C)) _ rfl x _ _ (rPost g a C (s_isOpen C x)) ?_ ?_ ?_ ?_ (cc_X6_isOpen l D g a C (4 * cM C) hst hI x).L
  · rintro r w' ⟨rfl, rfl, g0⟩
    exact ⟨by rw [s_isOpen_ok g0], rfl⟩
  · rintro E w' ⟨rfl, ⟨rfl, n0⟩⟩
    exact ⟨by rw [xcd_B, s_isOpen_0 n0], rfl⟩
  · rintro E w' ⟨_, rfl, _⟩
    exact rfl
  · rintro r w' ⟨rfl, -⟩; exact CI_z21 hI _
theorem fo_holders (l : Launch) (D : va_G) (g : zG) (a : Nat → Nat) (C : zMS) (hst : l.stackTraces = false) (hI : CI C) (x : Int32) : zWrp l yL_holders wsL_holders { frames := 8, cells := 1, slots := 6, locals := 124 } D (zT g) (wC g a C (4 * cM C)) [.ref (a 0), .int x] (rPost g a C (s_holders C x)) 1 6 := by
  refine wr_holders l D g (a 0) (wC g a C (4 * cM C)) _ rfl x _ _ (rPost g a C (s_holders C x)) ?_ ?_ ?_ (cc_X6_holders l D g a C (4 * cM C) hst hI x).L
  · rintro r w' ⟨rfl, rfl, g0⟩
    exact ⟨by rw [s_holders_ok g0], rfl⟩
  · rintro E w' ⟨rfl, ⟨rfl, n0⟩⟩
    exact ⟨by rw [xcd_B, s_holders_0 n0], rfl⟩
  · rintro E w' ⟨_, rfl, _⟩
    exact rfl
theorem fo_canStrike (l : Launch) (D : va_G) (g : zG) (a : Nat → Nat) (C : zMS) (hst : l.stackTraces = false) (hI : CI C) (x : Int32) (y : Int32) : zWrp l yL_canStrike wsL_canStrike { frames := 8, cells := 2, slots := 12, locals := 125 } D (zT g) (wC g a C (4 * cM C)) [.ref (a 0), .int x, .int y] (rPost g a C (s_canStrike C x y)) 2 12 := by
  refine wr_canStrike l D g (a 0) (wC g a C (4 * cM C)) _ rfl x y _ _ (rPost g a C (s_canStrike C x y)) ?_ ?_ ?_ ?_ (cc_X6_canStrike l D g a C (4 * cM C) hst hI x y).L
  · rintro r w' ⟨rfl, rfl, g0, g1⟩
    exact ⟨by rw [s_canStrike_ok g0 g1], rfl⟩
  · rintro E w' ⟨rfl, (⟨rfl, n0⟩ | ⟨rfl, g0, n1⟩)⟩
    · exact ⟨by rw [xcd_B, s_canStrike_0 n0], rfl⟩
    · exact ⟨by rw [xcd_B, s_canStrike_1 g0 n1], rfl⟩
  · rintro E w' ⟨_, ⟨rfl, _⟩ | ⟨rfl, _⟩⟩
    · exact rfl
    · exact rfl
  · rintro r w' ⟨rfl, -⟩; exact bI_or _
