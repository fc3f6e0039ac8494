/-! a copy made: its cells new, at the pool's end -/
def a4 (a : Nat → Nat) (m q0 q1 q2 q3 : Nat) : Nat → Nat := fun i => if i = 30 + m then q0 else if i = 31 + m then q1 else if i = 32 + m then q2 else if i = 33 + m then q3 else a i
theorem a4_o {a : Nat → Nat} {m q0 q1 q2 q3 i : Nat} (h : i < 30 + m) : a4 a m q0 q1 q2 q3 i = a i := by
  unfold a4; rw [if_neg (by omega), if_neg (by omega), if_neg (by omega), if_neg (by omega)]
theorem a4_0 {a : Nat → Nat} {m q0 q1 q2 q3 : Nat} : a4 a m q0 q1 q2 q3 (30 + m) = q0 := if_pos rfl
theorem a4_1 {a : Nat → Nat} {m q0 q1 q2 q3 : Nat} : a4 a m q0 q1 q2 q3 (31 + m) = q1 := by unfold a4; rw [if_neg (by omega), if_pos rfl]
theorem a4_2 {a : Nat → Nat} {m q0 q1 q2 q3 : Nat} : a4 a m q0 q1 q2 q3 (32 + m) = q2 := by unfold a4; rw [if_neg (by omega), if_neg (by omega), if_pos rfl]
theorem a4_3 {a : Nat → Nat} {m q0 q1 q2 q3 : Nat} : a4 a m q0 q1 q2 q3 (33 + m) = q3 := by unfold a4; rw [if_neg (by omega), if_neg (by omega), if_neg (by omega), if_pos rfl]
def nwC (C : zMS) (k : Nat) (b : Int32) (f : Nat) : zMS := up1 (up1 (up1 (up1 (up1 (up1 C (40 + 8 * k) (fun _ => b)) (41 + 8 * k) (fun _ => nI f)) (42 + 8 * k) (fun _ => nI (cP C))) (43 + 8 * k) (fun _ => nI 1)) (44 + 8 * k) (fun _ => nI 0)) (45 + 8 * k) (fun _ => nI 0)
theorem nwC_k {C : zMS} {k f fl : Nat} {b : Int32} (h : fl < 40 + 8 * k ∨ 46 + 8 * k ≤ fl) : nwC C k b f fl = C fl := by
  unfold nwC; rw [up1_k (by omega), up1_k (by omega), up1_k (by omega), up1_k (by omega), up1_k (by omega), up1_k (by omega)]
theorem nwC_0 {C : zMS} {k f : Nat} {b : Int32} : nwC C k b f (40 + 8 * k) = fun _ => b := by unfold nwC; rw [up1_k (by omega), up1_k (by omega), up1_k (by omega), up1_k (by omega), up1_k (by omega), up1_s]
theorem nwC_1 {C : zMS} {k f : Nat} {b : Int32} : nwC C k b f (41 + 8 * k) = fun _ => nI f := by unfold nwC; rw [up1_k (by omega), up1_k (by omega), up1_k (by omega), up1_k (by omega), up1_s]
theorem nwC_2 {C : zMS} {k f : Nat} {b : Int32} : nwC C k b f (42 + 8 * k) = fun _ => nI (cP C) := by unfold nwC; rw [up1_k (by omega), up1_k (by omega), up1_k (by omega), up1_s]
theorem nwC_3 {C : zMS} {k f : Nat} {b : Int32} : nwC C k b f (43 + 8 * k) = fun _ => nI 1 := by unfold nwC; rw [up1_k (by omega), up1_k (by omega), up1_s]
theorem nwC_4 {C : zMS} {k f : Nat} {b : Int32} : nwC C k b f (44 + 8 * k) = fun _ => nI 0 := by unfold nwC; rw [up1_k (by omega), up1_s]
theorem nwC_5 {C : zMS} {k f : Nat} {b : Int32} : nwC C k b f (45 + 8 * k) = fun _ => nI 0 := by unfold nwC; rw [up1_s]
def mkN (C : zMS) (k f : Nat) : Nat → zMS
  | 0 => C
  | i + 1 => tkC (mkN C k f i) (44 + 8 * k) (45 + 8 * k) 17 18 (f + i)
theorem mkN_k (C : zMS) (k f : Nat) {fl : Nat} (h : fl ≠ 44 + 8 * k ∧ fl ≠ 45 + 8 * k) : ∀ i, mkN C k f i fl = C fl
  | 0 => rfl
  | i + 1 => by rw [mkN, tkC_k h, mkN_k C k f h i]
theorem CI_mkN {C : zMS} {k f : Nat} (h : CI C) : ∀ i, CI (mkN C k f i)
  | 0 => h
  | i + 1 => CI_tkC (CI_mkN h i) (by omega) (by omega) (CI_z17 (CI_mkN h i) _)
def mkC (C : zMS) (b : Int32) (f : Nat) : zMS := up2 (up2 (mkN (nwC C (cM C) b f) (cM C) f (cP C - f)) 28 (cM C) (nI 1)) 20 0 (nI (cM C + 1))
theorem CI_nwC {C : zMS} {k f : Nat} {b : Int32} (h : CI C) (hf : f ≤ 80) : CI (nwC C k b f) := by
  have b80 := CI_b19 h
  unfold CI cP cD cOp cM cK cH cT cL cHc cF cE at h ⊢
  unfold cP at b80
  obtain ⟨h1, h2, h3, h4, h5, h6, h7, h8, h9, h10, h11, h12, h13, h14, h15, h16, h17, h18, h19⟩ := h
  rw [nwC_k (fl := 19) (by omega), nwC_k (fl := 3) (by omega), nwC_k (fl := 6) (by omega), nwC_k (fl := 20) (by omega), nwC_k (fl := 22) (by omega), nwC_k (fl := 27) (by omega), nwC_k (fl := 0) (by omega), nwC_k (fl := 10) (by omega), nwC_k (fl := 23) (by omega), nwC_k (fl := 13) (by omega), nwC_k (fl := 14) (by omega), nwC_k (fl := 15) (by omega), nwC_k (fl := 17) (by omega), nwC_k (fl := 21) (by omega), nwC_k (fl := 28) (by omega)]
  refine ⟨h1, h2, h3, h4, h5, h6, h7, h8, h9, fun p => ?_, fun p => ?_, h12, h13, h14, h15, h16, fun p => ?_, fun p q => ?_, h19⟩
  · by_cases e : p = k
    · subst e; rw [nwC_1]; exact ⟨by rw [nN_nI (by omega)], by rw [nN_nI (by omega)]; exact hf⟩
    · rw [nwC_k (by omega)]; exact h10 p
  · by_cases e : p = k
    · subst e; rw [nwC_2]; unfold cP; exact ⟨by rw [nN_nI (by omega)], by rw [nN_nI (by omega)]; exact b80⟩
    · rw [nwC_k (by omega)]; exact h11 p
  · by_cases e : p = k
    · subst e; rw [nwC_3]; exact Or.inr rfl
    · rw [nwC_k (by omega)]; exact h17 p
  · by_cases e : p = k
    · subst e; rw [nwC_4]; exact Or.inl rfl
    · rw [nwC_k (by omega)]; exact h18 p q
theorem bO_a {a a' : Nat → Nat} {x : Int32} {K : Nat} (h : x = -1 ∨ ∃ d, d < K ∧ x = nI d) (hK : K ≤ 16) (ha : ∀ i, i < 30 + 4 * K → a' i = a i) : bO a' x = bO a x := by
  rcases h with rfl | ⟨d, hd, rfl⟩
  · rfl
  · unfold bO; rw [if_neg (nI_nm1 (by omega)), if_neg (nI_nm1 (by omega)), nN_nI (by omega), ha _ (by omega)]
theorem wC_ac {g : zG} {a a' : Nat → Nat} {C C' : zMS} {m : Nat} (hf : ∀ f, f < 40 → C' f = C f) (h0 : ∀ i, i < 30 → a' i = a i) (h28 : ∀ j, C 28 j = 1 → a' (30 + 4 * j) = a (30 + 4 * j)) (hx : ∀ i, i < m → a' (30 + i) = a (30 + i) ∧ cX g a' C' i = cX g a C i) : wC g a' C' m = wC g a C m := by
  have e : wCo a' (C 28) = wCo a (C 28) := by
    funext j
    unfold wCo
    by_cases h : C 28 j = 1
    · rw [if_pos h, if_pos h, h28 j h]
    · rw [if_neg h, if_neg h]
  have e1 : wFx g a' C' = wFx g a C := by
    unfold wFx
    rw [h0 0 (by decide), h0 1 (by decide), h0 2 (by decide), h0 3 (by decide), h0 4 (by decide), h0 5 (by decide), h0 6 (by decide), h0 7 (by decide), h0 8 (by decide), h0 9 (by decide), h0 10 (by decide), h0 11 (by decide), h0 12 (by decide), h0 13 (by decide), h0 14 (by decide), h0 15 (by decide), h0 16 (by decide), h0 17 (by decide), h0 18 (by decide), h0 19 (by decide), h0 20 (by decide), h0 21 (by decide), h0 22 (by decide), h0 23 (by decide), h0 24 (by decide), h0 25 (by decide), h0 26 (by decide), h0 27 (by decide), h0 28 (by decide), h0 29 (by decide), hf 0 (by decide), hf 1 (by decide), hf 2 (by decide), hf 3 (by decide), hf 4 (by decide), hf 5 (by decide), hf 6 (by decide), hf 7 (by decide), hf 8 (by decide), hf 9 (by decide), hf 10 (by decide), hf 11 (by decide), hf 12 (by decide), hf 13 (by decide), hf 14 (by decide), hf 15 (by decide), hf 16 (by decide), hf 17 (by decide), hf 18 (by decide), hf 19 (by decide), hf 20 (by decide), hf 21 (by decide), hf 22 (by decide), hf 23 (by decide), hf 24 (by decide), hf 25 (by decide), hf 26 (by decide), hf 27 (by decide), hf 28 (by decide), e]
  have e2 : wPl g a' C' m = wPl g a C m := by
    unfold wPl
    apply List.map_congr_left
    intro i hi
    obtain ⟨x1, x2⟩ := hx i (List.mem_range.mp hi)
    rw [x1, x2]
  unfold wC
  rw [e1, e2]
theorem wC_new {g : zG} {a : Nat → Nat} {C : zMS} {K f q0 q1 q2 q3 : Nat} {b : Int32} (hI : CI C) (hJ : CJ C) (hK : cM C = K) (hb : b = -1 ∨ ∃ d, d < K ∧ b = nI d) : wC g a C (4 * K) ++ [(q0, .inr (1, [.ref q1, va_rf (bO a b), .int (nI f), .int (nI (cP C)), .int (nI 1)])), (q1, .inr (4, [.ref q2, .ref q3])), (q2, .inl (g.2.1, 80, .inl (fun _ => nI 0))), (q3, .inl (g.1, 320, .inl (fun _ => nI 0)))] = wC g (a4 a (4 * K) q0 q1 q2 q3) (nwC C K b f) (4 * K + 4) := by
  have hK16 : K ≤ 16 := hK ▸ CI_b20 hI
  have ho : ∀ i, i < 30 + 4 * K → a4 a (4 * K) q0 q1 q2 q3 i = a i := fun i h => a4_o h
  have hbO : ∀ x : Int32, (x = -1 ∨ ∃ d, d < K ∧ x = nI d) → bO (a4 a (4 * K) q0 q1 q2 q3) x = bO a x := fun x h => bO_a h hK16 ho
  have e0 : wC g (a4 a (4 * K) q0 q1 q2 q3) (nwC C K b f) (4 * K) = wC g a C (4 * K) := by
    refine wC_ac (fun fl h => nwC_k (by omega)) (fun i h => ho i (by omega)) (fun j h => ho _ (by have := CI_28 hI j h; omega)) (fun i h => ⟨ho _ (by omega), ?_⟩)
    unfold cX
    rw [nwC_k (fl := 40 + 8 * (i / 4)) (by omega), nwC_k (fl := 41 + 8 * (i / 4)) (by omega), nwC_k (fl := 42 + 8 * (i / 4)) (by omega), nwC_k (fl := 43 + 8 * (i / 4)) (by omega), nwC_k (fl := 44 + 8 * (i / 4)) (by omega), nwC_k (fl := 45 + 8 * (i / 4)) (by omega)]
    by_cases c0 : i % 4 = 0
    · rw [if_pos c0, if_pos c0, ho (31 + i) (by omega), hbO _ (by rw [← hK]; exact CJ_b hJ (by omega))]
    · rw [if_neg c0, if_neg c0]
      by_cases c1 : i % 4 = 1
      · rw [if_pos c1, if_pos c1, ho (31 + i) (by omega), ho (32 + i) (by omega)]
      · rw [if_neg c1, if_neg c1]
  rw [← wC_push (x := (q3, .inl (g.1, 320, .inl (fun _ => nI 0)))) (m := 4 * K + 3) ?_, ← wC_push (x := (q2, .inl (g.2.1, 80, .inl (fun _ => nI 0)))) (m := 4 * K + 2) ?_, ← wC_push (x := (q1, .inr (4, [.ref q2, .ref q3]))) (m := 4 * K + 1) ?_, ← wC_push (x := (q0, .inr (1, [.ref q1, va_rf (bO a b), .int (nI f), .int (nI (cP C)), .int (nI 1)]))) (m := 4 * K) ?_, e0]
  · simp only [List.append_assoc, List.cons_append, List.nil_append]
  · unfold cX
    rw [if_pos (by omega), show 4 * K / 4 = K by omega, a4_0, a4_1, nwC_0, nwC_1, nwC_2, nwC_3, hbO b hb]
  · unfold cX
    rw [if_neg (by omega), if_pos (by omega), show 30 + (4 * K + 1) = 31 + 4 * K by omega, show 31 + (4 * K + 1) = 32 + 4 * K by omega, show 32 + (4 * K + 1) = 33 + 4 * K by omega, a4_1, a4_2, a4_3]
  · unfold cX
    rw [if_neg (by omega), if_neg (by omega), if_pos (by omega), show 30 + (4 * K + 2) = 32 + 4 * K by omega, show (4 * K + 2) / 4 = K by omega, a4_2, nwC_4]
  · unfold cX
    rw [if_neg (by omega), if_neg (by omega), if_neg (by omega), show 30 + (4 * K + 3) = 33 + 4 * K by omega, show (4 * K + 3) / 4 = K by omega, a4_3, nwC_5]
theorem fw_X5_make_X0 : zF wsX5_make RX0 TX0 11 := fun _ h => List.mem_cons_of_mem _ (List.mem_append_left _ (List.mem_append_left _ (List.mem_append_right _ (h))))
theorem fw_X5_make_X1 : zF wsX5_make RX1 TX1 5 := fun _ h => List.mem_cons_of_mem _ (List.mem_append_left _ (List.mem_append_left _ (List.mem_append_left _ (List.mem_append_right _ (h)))))
theorem fw_X5_make_X5 : zF wsX5_make RX5 TX5 2 := fun _ h => List.mem_cons_of_mem _ (List.mem_append_left _ (List.mem_append_right _ (h)))
abbrev rmMk : Room := { frames := 3, cells := 4, slots := 407, locals := 63 }
def mkPost (g : zG) (a : Nat → Nat) (C : zMS) (b : Int32) (f : Nat) : Int32 → va_W → Prop := fun r w' => r = nI (cM C) ∧ ∃ a' : Nat → Nat, (∀ i, i < 30 + 4 * cM C → a' i = a i) ∧ w' = wC g a' (mkC C b f) (4 * cM C + 4)
set_option maxHeartbeats 4000000 in
set_option maxRecDepth 100000 in
theorem mk_tail2 {l : Launch} {D : va_G} {g : zG} {a a' : Nat → Nat} {C Cn : zMS} {K f : Nat} {b : Int32} (hI : CI Cn) (hCn : Cn = nwC C K b f) (hK : cM C = K) (hK16 : K < 16) (hf : f ≤ cP C) (hP80 : cP C ≤ 80) (hMn : Cn 20 0 = nI K) (ho : ∀ i, i < 30 + 4 * K → a' i = a i) {X : zX} {A : Nat → Prop} {w0 : va_W} (hAe : A = va_A w0 (zs X).heap.size) (hl : zl X = l) (B : zB X RX5 cX5_make 5 wsX5_make rmMk D (zT g) (zI1 D A (zs X))) (hr : (zmeth X).sig.returnType = some .int) :
    zJ X 5 (zI1 D A (zs X)) (zQe X (va_Qi (mkPost g a C b f) (zEnd D (zT g) w0 (zs X).heap.size) A) 4 407 A) (wC g a' Cn (4 * K + 4)) 4 407 [(0, .ref (a' 4)), (2, .ref (a' 3)), (3, .ref (a' (30 + 4 * K)))] 25 [] := by
  have h41 : Cn (41 + 8 * K) 0 = nI f := by rw [hCn, nwC_1]
  have h42 : Cn (42 + 8 * K) 0 = nI (cP C) := by rw [hCn, nwC_2]
  generalize hQ : zQe X (va_Qi (mkPost g a C b f) (zEnd D (zT g) w0 (zs X).heap.size) A) 4 407 A = Q
  refine z_aload_n B 2 dX5_make_25 rfl rfl ?_
  refine z_get (C := RX1) (T := TX1) (N := 5) (v := .int (Cn (41 + 8 * K) 0)) B (30 + 4 * K) 2 6 fw_X5_make_X1 (wC_c0 (by omega)) rfl (by decide) rfl rfl rfl dX5_make_26 ?_
  refine z_top (y := nI f) h41 ?_
  refine z_istore (lv1 := [(4, .int (nI f)), (0, .ref (a' 4)), (2, .ref (a' 3)), (3, .ref (a' (30 + 4 * K)))]) B dX5_make_29 (by decide) rfl ?_
  have loop31 : ∀ (n0 i : Nat), i ≤ cP C - f → cP C - f + 1 ≤ i + n0 → zJ X 5 (zI1 D A (zs X)) Q (wC g a' (mkN Cn K f i) (4 * K + 4)) 4 407 [(0, .ref (a' 4)), (2, .ref (a' 3)), (3, .ref (a' (30 + 4 * K))), (4, .int (nI (f + i)))] 31 [] := by
    intro n0
    induction n0 with
    | zero => intro i h1 h2; exact absurd h2 (by omega)
    | succ n0 ih =>
      intro i hle hn
      refine z_iload B 3 dX5_make_31 rfl ?_
      refine z_aload_n B 2 dX5_make_33 rfl rfl ?_
      refine z_get (C := RX1) (T := TX1) (N := 5) (v := .int (mkN Cn K f i (42 + 8 * K) 0)) B (30 + 4 * K) 3 4 fw_X5_make_X1 (wC_c0 (by omega)) rfl (by decide) rfl rfl rfl dX5_make_34 ?_
      refine z_top (y := nI (cP C)) (by rw [mkN_k _ _ _ (by omega)]; exact h42) ?_
      refine z_icmpN_ge B 59 dX5_make_37 (by decide) (by omega) (by omega) (fun c37 => ?_) (fun c37 => ?_)
      · obtain rfl : i = cP C - f := by omega
        refine z_aload_n B 0 dX5_make_59 rfl rfl ?_
        refine z_get (C := RX5) (T := TX5) (N := 2) (v := .ref (a' 20)) B 4 0 9 fw_X5_make_X5 rfl rfl (by decide) rfl rfl rfl dX5_make_60 ?_
        refine z_aload_n B 0 dX5_make_63 rfl rfl ?_
        refine z_get (C := RX5) (T := TX5) (N := 2) (v := .int (mkN Cn K f (cP C - f) 20 0)) B 4 1 10 fw_X5_make_X5 rfl rfl (by decide) rfl rfl rfl dX5_make_64 ?_
        refine z_top (y := nI K) (by rw [mkN_k _ _ _ (by omega)]; exact hMn) ?_
        refine z_aload_n B 2 dX5_make_67 rfl rfl ?_
        refine z_astq (i := K) (w' := wC g a' (up2 (mkN Cn K f (cP C - f)) 28 K (nI 1)) (4 * K + 4)) B 20 2 (30 + 4 * K) 1 rfl rfl (wC_c0 (by omega)) rfl (by omega) (by decide) dX5_make_68 (wC_f (by decide) (by rw [wCo_up1]; rfl) (fun f hf => up2_k (by omega))) ?_
        refine z_aload_n B 0 dX5_make_69 rfl rfl ?_
        refine z_dup B dX5_make_70 rfl ?_
        refine z_get (C := RX5) (T := TX5) (N := 2) (v := .int (up2 (mkN Cn K f (cP C - f)) 28 K (nI 1) 20 0)) B 4 1 10 fw_X5_make_X5 rfl rfl (by decide) rfl rfl rfl dX5_make_71 ?_
        refine z_top (y := nI K) (by rw [up2_k (by decide), mkN_k _ _ _ (by omega)]; exact hMn) ?_
        refine z_iconst (v := nI 1) B dX5_make_74 (by decide) ?_
        refine z_iaddN B dX5_make_75 ?_
        refine z_put (C := RX5) (T := TX5) (N := 2) (w' := wC g a' (up2 (up2 (mkN Cn K f (cP C - f)) 28 K (nI 1)) 20 0 (nI (K + 1))) (4 * K + 4)) B 4 1 10 fw_X5_make_X5 tyX5 tyX5_ok nmX5 rfl rfl (by decide) rfl rfl rfl rfl rfl (Nat.le_of_ble_eq_true rfl) dX5_make_76 (wC_f (by decide) rfl (fun f hf => up2_k (by omega))) ?_
        refine z_aload_n B 0 dX5_make_79 rfl rfl ?_
        refine z_get (C := RX5) (T := TX5) (N := 2) (v := .int (nI (K + 1))) B 4 1 10 fw_X5_make_X5 rfl rfl (by decide) rfl rfl rfl dX5_make_80 ?_
        refine z_iconst (v := nI 1) B dX5_make_83 (by decide) ?_
        refine z_isubN B dX5_make_84 (by omega) ?_
        refine z_top (y := nI K) (by rw [Nat.add_sub_cancel]) ?_
        subst hQ
        refine z_mret B hAe hr dX5_make_85 rfl (by decide) (by decide) ⟨by rw [hK], a', by rw [hK]; exact ho, ?_⟩
        unfold mkC
        rw [hK, hCn]
      · refine z_aload_n B 2 dX5_make_40 rfl rfl ?_
        refine z_get (C := RX1) (T := TX1) (N := 5) (v := .ref (a' (31 + 4 * K))) B (30 + 4 * K) 0 7 fw_X5_make_X1 (wC_c0 (by omega)) rfl (by decide) rfl rfl rfl dX5_make_41 ?_
        refine z_aload_n B 1 dX5_make_44 rfl rfl ?_
        refine z_get (C := RX0) (T := TX0) (N := 11) (v := .ref (a' 19)) B 3 9 8 fw_X5_make_X0 rfl rfl (by decide) rfl rfl rfl dX5_make_45 ?_
        refine z_iload B 3 dX5_make_48 rfl ?_
        refine z_callMV (As := [.ref (a' 19), .int (nI (f + i))]) (st := []) (C := RX4) (T := TX4) (N := 2) (ci := 4) (l := l) B hl (cc_X4_take_KN l D g a' (mkN Cn K f i) (4 * K + 4) (CI_mkN hI i) K (by omega) (f + i) (by omega)) gX5_make_X4_take rfl ⟨rfl, rfl⟩ nm_X4_take ⟨by decide, by decide⟩ (31 + 4 * K) (wC_c1 (by omega)) rfl rfl (Nat.le_of_ble_eq_true rfl) dX5_make_50 rfl rfl (by decide) (by decide) (fun w1 hr => ?_)
        subst hr
        refine z_iinc B 3 (lv1 := [(4, .int (nI (f + i + 1))), (0, .ref (a' 4)), (2, .ref (a' 3)), (3, .ref (a' (30 + 4 * K)))]) dX5_make_53 rfl (nI_1 _) (by decide) rfl ?_
        refine z_goto B 31 dX5_make_56 (by decide) ?_
        refine z_loc [1, 2, 3, 0] (lv' := [(0, .ref (a' 4)), (2, .ref (a' 3)), (3, .ref (a' (30 + 4 * K))), (4, .int (nI (f + (i + 1))))]) rfl ?_
        exact ih (i + 1) (by omega) (by omega)
  refine z_loc [1, 2, 3, 0] (lv' := [(0, .ref (a' 4)), (2, .ref (a' 3)), (3, .ref (a' (30 + 4 * K))), (4, .int (nI (f + 0)))]) rfl ?_
  exact loop31 (cP C - f + 1) 0 (by omega) (by omega)
set_option maxHeartbeats 4000000 in
set_option maxRecDepth 100000 in
theorem mk_tail {l : Launch} {D : va_G} {g : zG} {a : Nat → Nat} {C : zMS} {K f q : Nat} {b : Int32} (hI : CI C) (hJ : CJ C) (hK : cM C = K) (hK16 : K < 16) (hb : b = -1 ∨ ∃ d, d < K ∧ b = nI d) (hf : f ≤ cP C) {X : zX} {A : Nat → Prop} {w0 : va_W} (hAe : A = va_A w0 (zs X).heap.size) (hl : zl X = l) (B : zB X RX5 cX5_make 5 wsX5_make rmMk D (zT g) (zI1 D A (zs X))) (hr : (zmeth X).sig.returnType = some .int) (hNF : zNF (zs X)) :
    zJ X 5 (zI1 D A (zs X)) (zQe X (va_Qi (mkPost g a C b f) (zEnd D (zT g) w0 (zs X).heap.size) A) 4 407 A) (wC g a C (4 * K) ++ [(q, .inr (1, [.null, .null, .int (nI 0), .int (nI 0), .int (nI 0)]))]) 1 5 [(0, .ref (a 4)), (2, .ref (a 3))] 17 [.int (nI f), va_rf (bO a b), .ref q, .ref q] := by
  refine z_aload_n B 1 dX5_make_17 rfl rfl ?_
  refine z_get (C := RX0) (T := TX0) (N := 11) (v := .int (C 19 0)) B 3 10 5 fw_X5_make_X0 rfl rfl (by decide) rfl rfl rfl dX5_make_18 ?_
  refine z_top (y := nI (cP C)) (CI_19 hI) ?_
  refine z_callI (As := [va_rf (bO a b), .int (nI f), .int (nI (cP C))]) (st := [.ref q]) B hNF hl (ci_X1 l D g q (bO a b) (nI f) (nI (cP C))) gX5_make_X1_init (List.mem_of_getElem? (i := 11) rfl) (List.mem_of_getElem? (i := 3) rfl) (List.mem_of_getElem? (i := 12) rfl) rfl rfl ⟨rfl, rfl⟩ nm_X1_init (by decide) rfl (Nat.le_of_ble_eq_true rfl) dX5_make_21 rfl rfl (Nat.le_of_ble_eq_true rfl) (Nat.le_of_ble_eq_true rfl) (fun w1 hw1 => ?_)
  obtain ⟨e0, e1, e2, rfl⟩ := hw1
  refine z_w (wC_new hI hJ hK hb) ?_
  have ho : ∀ i, i < 30 + 4 * K → a4 a (4 * K) q e0 e1 e2 i = a i := fun i h => a4_o h
  refine z_topv (y := .ref (a4 a (4 * K) q e0 e1 e2 (30 + 4 * K))) (by rw [a4_0]) ?_
  refine z_lvc (lv' := [(0, .ref (a4 a (4 * K) q e0 e1 e2 4)), (2, .ref (a4 a (4 * K) q e0 e1 e2 3))]) (by rw [ho 4 (by omega), ho 3 (by omega)]) ?_
  generalize a4 a (4 * K) q e0 e1 e2 = a' at ho ⊢
  refine z_astore_n (lv1 := [(3, .ref (a' (30 + 4 * K))), (0, .ref (a' 4)), (2, .ref (a' 3))]) B dX5_make_24 rfl (by decide) rfl ?_
  refine z_loc [1, 2, 0] (lv' := [(0, .ref (a' 4)), (2, .ref (a' 3)), (3, .ref (a' (30 + 4 * K)))]) rfl ?_
  exact mk_tail2 (CI_nwC hI (Nat.le_trans hf (CI_b19 hI))) rfl hK hK16 hf (CI_b19 hI) (by rw [nwC_k (by omega), CI_20 hI, hK]) ho hAe hl B hr
set_option maxHeartbeats 4000000 in
set_option maxRecDepth 100000 in
theorem cf_X5_make_N (l : Launch) (D : va_G) (g : zG) (a : Nat → Nat) (C : zMS) (hI : CI C) (hJ : CJ C) (hK16 : cM C < 16) : zFutI l yX5_make wsX5_make rmMk D (zT g) (wC g a C (4 * cM C)) [.ref (a 4), .null, .ref (a 3)] (mkPost g a C (-1) 0) 4 407 := by
  refine zFutI_of (cc := cX5_make) (maxL := 5) (ret := (some .int)) (own := RX5) [(0, .ref (a 4)), (1, .null), (2, .ref (a 3))] (by decide) rfl rfl rfl (Nat.le_of_ble_eq_true rfl) ?_
  intro X A hAe hl B hr hin hNF
  refine z_new (C := RX1) (T := TX1) (N := 5) (ci := 1) (fs := [.null, .null, .int (nI 0), .int (nI 0), .int (nI 0)]) B (fun _ h => List.mem_cons_of_mem _ (List.mem_append_left _ (List.mem_append_left _ (List.mem_append_left _ (List.mem_append_right _ (h)))))) tyX1 tyX1_ok (List.mem_of_getElem? (i := 1) rfl) (List.mem_of_getElem? (i := 2) rfl) (List.mem_of_getElem? (i := 3) rfl) rfl df_X1 (Nat.le_of_ble_eq_true rfl) (Nat.le_of_ble_eq_true rfl) dX5_make_0 (fun q => ?_)
  refine z_dup B dX5_make_3 rfl ?_
  refine z_aload_nN B 1 dX5_make_4 rfl rfl ?_
  refine z_aload_nN B 1 dX5_make_5 rfl rfl ?_
  refine z_ifnonnullN B dX5_make_6 ?_
  refine z_iconst (v := nI 0) B dX5_make_9 (by decide) ?_
  refine z_goto B 17 dX5_make_10 (by decide) ?_
  refine z_loc [0, 2] (lv' := [(0, .ref (a 4)), (2, .ref (a 3))]) rfl ?_
  exact mk_tail hI hJ rfl hK16 (Or.inl rfl) (Nat.zero_le _) hAe hl B hr hNF
set_option maxHeartbeats 4000000 in
set_option maxRecDepth 100000 in
theorem cf_X5_make_K (l : Launch) (D : va_G) (g : zG) (a : Nat → Nat) (C : zMS) (hI : CI C) (hJ : CJ C) (hK16 : cM C < 16) (d : Nat) (hd : d < cM C) : zFutI l yX5_make wsX5_make rmMk D (zT g) (wC g a C (4 * cM C)) [.ref (a 4), .ref (a (30 + 4 * d)), .ref (a 3)] (mkPost g a C (nI d) (cE C d)) 4 407 := by
  refine zFutI_of (cc := cX5_make) (maxL := 5) (ret := (some .int)) (own := RX5) [(0, .ref (a 4)), (1, .ref (a (30 + 4 * d))), (2, .ref (a 3))] (by decide) rfl rfl rfl (Nat.le_of_ble_eq_true rfl) ?_
  intro X A hAe hl B hr hin hNF
  refine z_new (C := RX1) (T := TX1) (N := 5) (ci := 1) (fs := [.null, .null, .int (nI 0), .int (nI 0), .int (nI 0)]) B (fun _ h => List.mem_cons_of_mem _ (List.mem_append_left _ (List.mem_append_left _ (List.mem_append_left _ (List.mem_append_right _ (h)))))) tyX1 tyX1_ok (List.mem_of_getElem? (i := 1) rfl) (List.mem_of_getElem? (i := 2) rfl) (List.mem_of_getElem? (i := 3) rfl) rfl df_X1 (Nat.le_of_ble_eq_true rfl) (Nat.le_of_ble_eq_true rfl) dX5_make_0 (fun q => ?_)
  refine z_dup B dX5_make_3 rfl ?_
  refine z_aload_n B 1 dX5_make_4 rfl rfl ?_
  refine z_aload_n B 1 dX5_make_5 rfl rfl ?_
  refine z_ifnonnull B 13 dX5_make_6 (by decide) ?_
  refine z_aload_n B 1 dX5_make_13 rfl rfl ?_
  refine z_get (C := RX1) (T := TX1) (N := 5) (v := .int (C (42 + 8 * d) 0)) B (30 + 4 * d) 3 4 fw_X5_make_X1 (by rw [List.getElem?_append_left (by have := (List.getElem?_eq_some_iff.mp (wC_c0 (g := g) (a := a) (C := C) (m := 4 * cM C) (k := d) (by omega))).1; exact this)]; exact wC_c0 (by omega)) rfl (by decide) rfl rfl rfl dX5_make_14 ?_
  refine z_top (y := nI (cE C d)) (CI_42 hI d) ?_
  refine z_loc [0, 2] (lv' := [(0, .ref (a 4)), (2, .ref (a 3))]) rfl ?_
  have h17 := mk_tail (a := a) (q := q) (b := nI d) hI hJ rfl hK16 (Or.inr ⟨d, hd, rfl⟩) (hJ.2 d hd).2 hAe hl B hr hNF
  rw [bO_s (by omega)] at h17
  exact h17
