/-! rows for the law's own methods -/
section ZLA
variable {X : zX} {own : String} {cc : ByteArray} {nL : Nat} {Ts : List Cond} {rm : Room} {D : va_G} {tys : List (ClassId × FieldType)} {I : zII} {Q : State → Prop} {w : va_W} {k n : Nat} {lv : List (Nat × Value)} {pc : Nat} {st : List Value}
theorem z_idivN (B : zB X own cc nL Ts rm D tys I) {a b : Nat} (ha : a < 2 ^ 31) (h0 : 0 < b) (hb : b < 2 ^ 31) (hdg : decode cc pc = .ok (.idiv, 1)) (kk : zJ X nL I Q w k n lv (pc + 1) (.int (nI (a / b)) :: st)) : zJ X nL I Q w k n lv pc (.int (nI b) :: .int (nI a) :: st) := by
  intro H locs ls hI hL
  exact lv_idiv B.1 B.2.1 hdg (nI_ne0 h0 hb) (by rw [pk_div ha h0 hb]; exact kk H locs ls hI hL)
theorem z_iremN (B : zB X own cc nL Ts rm D tys I) {a b : Nat} (ha : a < 2 ^ 31) (h0 : 0 < b) (hb : b < 2 ^ 31) (hdg : decode cc pc = .ok (.irem, 1)) (kk : zJ X nL I Q w k n lv (pc + 1) (.int (nI (a % b)) :: st)) : zJ X nL I Q w k n lv pc (.int (nI b) :: .int (nI a) :: st) := by
  intro H locs ls hI hL
  exact lv_irem B.1 B.2.1 hdg (nI_ne0 h0 hb) (by rw [pk_rem ha h0 hb]; exact kk H locs ls hI hL)
theorem z_tabIn (B : zB X own cc nL Ts rm D tys I) {dflt lo hi : Int} {offs : Array Int} {len : Nat} {x : Int32} {off : Int} (tgt : Nat) (hdg : decode cc pc = .ok (.tableswitch dflt lo hi offs, len)) (h1 : ¬ x.toInt < lo) (h2 : ¬ hi < x.toInt) (ho : offs[(x.toInt - lo).toNat]? = some off) (ht : (pc : Int) + off = (tgt : Int)) (kk : zJ X nL I Q w k n lv tgt st) : zJ X nL I Q w k n lv pc (.int x :: st) := by
  intro H locs ls hI hL
  exact lv_tableIn B.1 B.2.1 hdg h1 h2 ho ht (kk H locs ls hI hL)
theorem z_tabOut (B : zB X own cc nL Ts rm D tys I) {dflt lo hi : Int} {offs : Array Int} {len : Nat} {x : Int32} (tgt : Nat) (hdg : decode cc pc = .ok (.tableswitch dflt lo hi offs, len)) (h : x.toInt < lo ∨ hi < x.toInt) (ht : (pc : Int) + dflt = (tgt : Int)) (kk : zJ X nL I Q w k n lv tgt st) : zJ X nL I Q w k n lv pc (.int x :: st) := by
  intro H locs ls hI hL
  exact lv_tableOut B.1 B.2.1 hdg h ht (kk H locs ls hI hL)
end ZLA
theorem va_D_iff {A : Nat → Prop} (v : va_W) : va_D A v ↔ (v.Pairwise (fun p q => p.1 ≠ q.1) ∧ ∀ q ∈ v, A q.1) := by
  constructor
  · intro h
    refine ⟨List.pairwise_iff_getElem.mpr (fun i j hi hj hij e => ?_), fun q hq => ?_⟩
    · have := h.1 i j _ _ (List.getElem?_eq_getElem hi) (List.getElem?_eq_getElem hj) e
      omega
    · obtain ⟨i, hi⟩ := List.getElem?_of_mem hq
      exact h.2 i q hi
  · rintro ⟨h1, h2⟩
    rw [List.pairwise_iff_getElem] at h1
    refine ⟨fun i j p q hi hj e => ?_, fun i q hi => h2 q (List.mem_of_getElem? hi)⟩
    obtain ⟨li, ei⟩ := List.getElem?_eq_some_iff.mp hi
    obtain ⟨lj, ej⟩ := List.getElem?_eq_some_iff.mp hj
    rcases Nat.lt_trichotomy i j with q | q | q
    · exact absurd (by rw [ei, ej]; exact e) (h1 i j li lj q)
    · exact q
    · exact absurd (by rw [ei, ej]; exact e.symm) (h1 j i lj li q)
theorem va_D_perm {A : Nat → Prop} {w w' : va_W} (hp : w.Perm w') (h : va_D A w) : va_D A w' := by
  rw [va_D_iff] at h ⊢
  exact ⟨(hp.pairwise_iff (fun h e => h e.symm)).mp h.1, fun q hq => h.2 q (hp.mem_iff.mpr hq)⟩
section ZLB
variable {X : zX} {l : Launch} {own : String} {cc : ByteArray} {nL : Nat} {Ts : List Cond} {rm : Room} {D : va_G} {tys : List (ClassId × FieldType)} {Q : State → Prop} {w w1 w2 wc : va_W} {k n : Nat} {lv : List (Nat × Value)} {pc : Nat} {st st0 : List Value} {A : Nat → Prop}
variable {y : MethodName} {ws ws' : List Cond} {rm' : Room} {bytes : ByteArray} {maxL index : Nat} {ret : Option FieldType} {C : String} {T : u_T} {N ci b : Nat} {fs : List Value} {As : List Value}
theorem z_perm {w' : va_W} (hp : w.Perm w') (kk : zJ X nL (zI1 D A (zs X)) Q w' k n lv pc st) : zJ X nL (zI1 D A (zs X)) Q w k n lv pc st := by
  rintro H locs ls ⟨hP, hD, hS, hA⟩ hL
  exact kk H locs ls ⟨z_sub hP (fun j q hj => hp.mem_iff.mpr (List.mem_of_getElem? hj)), va_D_perm hp hD, hS, hA⟩ hL
theorem sub_r {H : Heap} (hP : va_P D vwCl (w1 ++ wc) H) : va_P D vwCl wc H := z_sub hP (fun _ _ hj => List.mem_append_right _ (List.mem_of_getElem? hj))
theorem sub_m {H : Heap} (hP : va_P D vwCl (w1 ++ (wc ++ w2)) H) : va_P D vwCl wc H := z_sub hP (fun _ _ hj => List.mem_append_right _ (List.mem_append_left _ (List.mem_of_getElem? hj)))
theorem sub_rr {H : Heap} (hP : va_P D vwCl (w1 ++ (w2 ++ wc)) H) : va_P D vwCl wc H := z_sub hP (fun _ _ hj => List.mem_append_right _ (List.mem_append_right _ (List.mem_of_getElem? hj)))
/-- a method of the law's own that lets nothing out -/
theorem zLwI_of {post : Int32 → va_W → Prop} {mc ms : Nat} (lv : List (Nat × Value)) (hy : plainName y.cls = true) (ho : y.cls = own) (hw : ws = Cond.code y cc maxL ret :: ws') (hlv : lv_args 0 As = lv) (hn : (lg_sl As).length ≤ maxL)
    (body : ∀ (X : zX) (A : Nat → Prop), A = va_A w (zs X).heap.size → zl X = l → zB X own cc maxL ws rm D tys (zI1 D A (zs X)) → (zmeth X).sig.returnType = ret → zLF A (zs X) (zs X).heap → zJ X maxL (zI1 D A (zs X)) (zQe X (va_Qi post (zEnd D tys w (zs X).heap.size) A) mc ms A) w 0 0 lv 0 []) : zWrp l y ws rm D tys w As post mc ms := by
  intro sz
  refine vx_ofW (cc := cc) (maxL := maxL) (ret := ret) hy hw ?_
  intro p e s m args below meth c s₁ B hml ht hv
  obtain ⟨rfl, ⟨rfl, hP, hK, hD⟩, hT⟩ := hv
  rw [lg_entry_eq]
  have h := body (p, l, e, (headSpec ws rm).room, s, m, As.toArray, below, meth, c) _ rfl rfl ⟨B.exec, B.bytes, hml, ho ▸ findClass_of_methodNamed B.named, atoms_spec (ws := ws) B.pre, hK, fun w H locs h => h.1, rfl, B.notSynchronized⟩ B.returns hT
  exact vx_ret (h s.heap [] _ ⟨hP, hD.self, va_S.rf, fun q h => Or.inr h⟩ (hlv ▸ lv_entry As hn))
/-- a call of such a method -/
theorem z_callL {post : Int32 → va_W → Prop} {mc ms k' n' : Nat} (B : zB X own cc nL Ts rm D tys (zI1 D A (zs X))) (hLF : zLF A (zs X) (zs X).heap) (hl : zl X = l) (hM : zWrp l y ws rm' D tys wc As post mc ms) (hG : GoodIn Ts (va_wsS own index y ws)) (hw : ws = Cond.code y bytes maxL ret :: ws') (hc0 : rm'.cells = mc ∧ rm'.slots = ms) (hd : zNm y own As.length) (hR : zRm rm rm' maxL)
    (hst : st0 = As.reverse ++ st) (hcat : (st.map fun v => v.category).sum ≤ 8) (hdg : decode cc pc = .ok (.invokestatic index, 3))
    (hk : k + mc = k') (hn : n + ms = n') (hk' : k' ≤ rm.cells) (hn' : n' ≤ rm.slots) (kk : ∀ (r : Int32) (w' : va_W), post r w' → zJ X nL (zI1 D A (zs X)) Q (w1 ++ w') k' n' lv (pc + 3) (.int r :: st)) : zJ X nL (zI1 D A (zs X)) Q (w1 ++ wc) k n lv pc st0 := by
  rintro H locs ls ⟨hP, hD, hS, hA⟩ hL
  subst hl; subst hk; subst hn
  obtain ⟨-, ⟨hPc, hDc⟩, -⟩ := z_cut hP hD
  have hF := z_freeA hDc hS hA
  refine vx_calli (vx_runS ⟨B.1, B.2.1, B.2.2.1, B.2.2.2.1, B.2.2.2.2.1⟩ (hM H.size) (va_cwS As.length B.2.2.2.2.1 hG hw hc0.1 hc0.2 hd.2 (B.2.2.2.2.2.2.2.1 ▸ hR))
    ⟨zL_blind, fun U hU hW => ⟨rfl, ⟨by rw [hU], by rw [hU]; exact hPc, va_K.moved hW.alike B.2.2.2.2.2.1, hDc.weaken (fun _ _ _ _ => trivial)⟩, by rw [hU]; exact hLF.to hW hS.2.1 hF⟩⟩ rfl rfl hL.1 hst (lv_room hcat) hdg ⟨B.2.2.2.2.2.2.2.1 ▸ hk', B.2.2.2.2.2.2.2.1 ▸ hn'⟩) hS (fun q _ h => hF q h) hF (fun q _ h => h.elim) (fun E ce q9 u t H1 locs1 ht hvm hpx => hpx.elim) ?_
  intro r u t H1 locs1 ht hvm hpost hB hz hk1 hS1
  obtain ⟨hP1, hK1, hD1⟩ := hB
  rw [ht] at hP1
  obtain ⟨j1, j2⟩ := z_join hP hD hk1 hF hP1 hD1
  exact kk r u hpost H1 locs1 ls ⟨j1, j2, hS1, hA⟩ hL
/-- the same of a wrapper whose world lies in the middle -/
theorem z_callWm {post : Int32 → va_W → Prop} {mc ms k' n' : Nat} {hh : List (Nat × Nat × Nat × Nat)} (B : zB X own cc nL Ts rm D tys (zI1 D A (zs X))) (hLF : zLF A (zs X) (zs X).heap) (hl : zl X = l) (hM : zWrp l y ws rm' D tys wc As post mc ms) (hG : GoodIn Ts (va_wsS own index y ws)) (hw : ws = Cond.codeWith y bytes maxL ret hh :: ws') (hc0 : rm'.cells = mc ∧ rm'.slots = ms) (hd : zNm y own As.length) (hR : zRm rm rm' maxL)
    (hst : st0 = As.reverse ++ st) (hcat : (st.map fun v => v.category).sum ≤ 8) (hdg : decode cc pc = .ok (.invokestatic index, 3))
    (hk : k + mc = k') (hn : n + ms = n') (hk' : k' ≤ rm.cells) (hn' : n' ≤ rm.slots) (kk : ∀ (r : Int32) (w' : va_W), post r w' → zJ X nL (zI1 D A (zs X)) Q (w1 ++ (w' ++ w2)) k' n' lv (pc + 3) (.int r :: st)) : zJ X nL (zI1 D A (zs X)) Q (w1 ++ (wc ++ w2)) k n lv pc st0 := by
  refine z_perm (w' := (w1 ++ w2) ++ wc) (by rw [List.append_assoc]; exact List.Perm.append_left w1 List.perm_append_comm) ?_
  refine z_callW B hLF hl hM hG hw hc0 hd hR hst hcat hdg hk hn hk' hn' (fun r w' hp => ?_)
  exact z_perm (w' := w1 ++ (w' ++ w2)) (by rw [List.append_assoc]; exact List.Perm.append_left w1 List.perm_append_comm) (kk r w' hp)
theorem z_callWr {post : Int32 → va_W → Prop} {mc ms k' n' : Nat} {hh : List (Nat × Nat × Nat × Nat)} (B : zB X own cc nL Ts rm D tys (zI1 D A (zs X))) (hLF : zLF A (zs X) (zs X).heap) (hl : zl X = l) (hM : zWrp l y ws rm' D tys wc As post mc ms) (hG : GoodIn Ts (va_wsS own index y ws)) (hw : ws = Cond.codeWith y bytes maxL ret hh :: ws') (hc0 : rm'.cells = mc ∧ rm'.slots = ms) (hd : zNm y own As.length) (hR : zRm rm rm' maxL)
    (hst : st0 = As.reverse ++ st) (hcat : (st.map fun v => v.category).sum ≤ 8) (hdg : decode cc pc = .ok (.invokestatic index, 3))
    (hk : k + mc = k') (hn : n + ms = n') (hk' : k' ≤ rm.cells) (hn' : n' ≤ rm.slots) (kk : ∀ (r : Int32) (w' : va_W), post r w' → zJ X nL (zI1 D A (zs X)) Q (w1 ++ (w2 ++ w')) k' n' lv (pc + 3) (.int r :: st)) : zJ X nL (zI1 D A (zs X)) Q (w1 ++ (w2 ++ wc)) k n lv pc st0 := by
  refine z_w (w' := (w1 ++ w2) ++ wc) (List.append_assoc _ _ _).symm ?_
  refine z_callW B hLF hl hM hG hw hc0 hd hR hst hcat hdg hk hn hk' hn' (fun r w' hp => ?_)
  exact z_w (w' := w1 ++ (w2 ++ w')) (List.append_assoc _ _ _) (kk r w' hp)
end ZLB
/-! the script's numbers -/
section ZLD
variable {X : zX} {l : Launch} {own : String} {cc : ByteArray} {nL : Nat} {Ts : List Cond} {rm : Room} {D : va_G} {tys : List (ClassId × FieldType)} {Q : State → Prop} {w : va_W} {k n : Nat} {lv : List (Nat × Value)} {pc : Nat} {st st0 : List Value} {A : Nat → Prop}
variable {y : MethodName} {ws ws' : List Cond} {rm' : Room} {bytes : ByteArray} {maxL index : Nat} {ret : Option FieldType}
theorem z_sld0 (B : zB X own cc nL Ts rm D tys (zI0 D (zs X))) {b L : Nat} {xs : Nat → Int32} (hX : va_X b L xs (zs X) (zs X).heap) (hbl : b < (zs X).heap.size) {j : Nat} (hj : j < L) (hL : L < 2 ^ 31) (hdg : decode cc pc = .ok (.iaload, 1)) (kk : zJ X nL (zI0 D (zs X)) Q w k n lv (pc + 1) (.int (xs j) :: st)) : zJ X nL (zI0 D (zs X)) Q w k n lv pc (.int (nI j) :: .ref b :: st) := by
  rintro H locs ls ⟨hP, rfl, rfl⟩ hL2
  exact va_sld (A := fun _ => False) B.1 B.2.1 hX hbl (fun h => h) va_S.rf (vp_in_nI hj hL) hdg (by rw [nI_clamp (by omega)]; exact kk _ [] ls ⟨hP, rfl, rfl⟩ hL2)
theorem z_slen0 (B : zB X own cc nL Ts rm D tys (zI0 D (zs X))) {b L : Nat} {xs : Nat → Int32} (hX : va_X b L xs (zs X) (zs X).heap) (hbl : b < (zs X).heap.size) (hdg : decode cc pc = .ok (.arraylength, 1)) (kk : zJ X nL (zI0 D (zs X)) Q w k n lv (pc + 1) (.int (nI L) :: st)) : zJ X nL (zI0 D (zs X)) Q w k n lv pc (.ref b :: st) := by
  rintro H locs ls ⟨hP, rfl, rfl⟩ hL2
  exact va_slen (A := fun _ => False) B.1 B.2.1 hX hbl (fun h => h) va_S.rf hdg (kk _ [] ls ⟨hP, rfl, rfl⟩ hL2)
/-- a reader of the script -/
def zDrw (l : Launch) (y : MethodName) (ws : List Cond) (rm : Room) (D : va_G) (tys : List (ClassId × FieldType)) (b L : Nat) (xs : Nat → Int32) (As : List Value) (post : Int32 → Prop) : Prop :=
  Met l y ws rm (va_Pc As (fun U => va_X b L xs U U.heap ∧ va_K D vwCl tys U)) (vp_Si post) 0 0 (fun _ => False)
theorem z_callDr {post : Int32 → Prop} {b L : Nat} {xs : Nat → Int32} {As : List Value} (B : zB X own cc nL Ts rm D tys (zI1 D A (zs X))) (hl : zl X = l) (hX : va_X b L xs (zs X) (zs X).heap) (hbl : b < (zs X).heap.size) (hbA : ¬ A b) (hM : zDrw l y ws rm' D tys b L xs As post) (hG : GoodIn Ts (wsS own index y ws)) (hw : ws = Cond.code y bytes maxL ret :: ws') (hc0 : rm'.cells = 0 ∧ rm'.slots = 0) (hd : zNm y own As.length) (hR : zRm rm rm' maxL)
    (hst : st0 = As.reverse ++ st) (hcat : (st.map fun v => v.category).sum ≤ 8) (hdg : decode cc pc = .ok (.invokestatic index, 3))
    (hk : k ≤ rm.cells) (hn : n ≤ rm.slots) (kk : ∀ r : Int32, post r → zJ X nL (zI1 D A (zs X)) Q w k n lv (pc + 3) (.int r :: st)) : zJ X nL (zI1 D A (zs X)) Q w k n lv pc st0 := by
  rintro H locs ls ⟨hP, hD, hS, hA⟩ hL
  subst hl
  have hXH := hX.kept (hS.2.1 b hbl hbA)
  exact vp_callSi (W.runS ⟨B.1, B.2.1, B.2.2.1, B.2.2.2.1, B.2.2.2.2.1⟩ hM (cwS As.length B.2.2.2.2.1 hG hw hc0.1 hc0.2 hd (B.2.2.2.2.2.2.2.1 ▸ hR))
    ⟨fun a U g mk q => ⟨q.1, va_X.moved (u := U) (U := U.calling g mk a) (Vm.Alike.refl U.vm) q.2.1, va_K.moved (u := U) (U := U.calling g mk a) (Vm.Alike.refl U.vm) q.2.2⟩, fun U hU hW => ⟨rfl, by rw [hU]; exact hXH.moved hW.alike, va_K.moved hW.alike B.2.2.2.2.2.1⟩⟩ rfl rfl hL.1 hst (lv_room hcat) hdg ⟨B.2.2.2.2.2.2.2.1 ▸ hk, B.2.2.2.2.2.2.2.1 ▸ hn⟩) (fun r hr => kk r hr H locs ls ⟨hP, hD, hS, hA⟩ hL)
end ZLD
theorem and_m (x : Int32) : ∃ j : Nat, j < 2 ^ 31 ∧ x &&& 2147483647 = nI j := pk_andE x 31 (by decide)
set_option maxHeartbeats 4000000 in
set_option maxRecDepth 100000 in
theorem c_drawn (l : Launch) (D : va_G) (g : zG) (b L : Nat) (xs : Nat → Int32) (hL : L < 2 ^ 31) (k : Nat) (hk : k < 2 ^ 31) : zDrw l yL_drawn wsL_drawn { frames := 0, cells := 0, slots := 0, locals := 0 } D (zT g) b L xs [.ref b, .int (nI k)] (fun r => ∃ j : Nat, j < 2 ^ 31 ∧ r = nI j) := by
  unfold zDrw
  refine Met.ofW (cc := cL_drawn) (maxL := 2) (ret := some .int) (by decide) rfl ?_
  intro p e s m args below meth c s₁ B0 hml hv
  obtain ⟨rfl, hX, hK⟩ := hv
  rw [lg_entry_eq]
  have B : zB (p, l, e, (headSpec wsL_drawn { frames := 0, cells := 0, slots := 0, locals := 0 }).room, s, m, ([.ref b, .int (nI k)] : List Value).toArray, below, meth, c) RL cL_drawn 2 wsL_drawn { frames := 0, cells := 0, slots := 0, locals := 0 } D (zT g) (zI0 D s) := ⟨B0.exec, B0.bytes, hml, (findClass_of_methodNamed B0.named : s.vm.findClass RL = some m.cls), atoms_spec (ws := wsL_drawn) B0.pre, hK, fun w H locs h => h.1, rfl, B0.notSynchronized⟩
  have hbl : b < s.heap.size := by
    obtain ⟨scr, h1, -⟩ := hX
    exact (Array.getElem?_eq_some_iff.mp h1).1
  suffices h : zJ (p, l, e, (headSpec wsL_drawn { frames := 0, cells := 0, slots := 0, locals := 0 }).room, s, m, ([.ref b, .int (nI k)] : List Value).toArray, below, meth, c) 2 (zI0 D s) (zQe (p, l, e, (headSpec wsL_drawn { frames := 0, cells := 0, slots := 0, locals := 0 }).room, s, m, ([.ref b, .int (nI k)] : List Value).toArray, below, meth, c) (vp_Si (fun r => ∃ j : Nat, j < 2 ^ 31 ∧ r = nI j)) 0 0 (fun _ => False)) [] 0 0 [(0, .ref b), (1, .int (nI k))] 0 [] from
    h s.heap [] _ ⟨fun i q h => by simp at h, rfl, rfl⟩ (lv_entry [.ref b, .int (nI k)] (n := 2) (Nat.le_of_ble_eq_true rfl))
  have hr : meth.sig.returnType = some .int := B0.returns
  refine z_iload_n B 1 dL_drawn_0 rfl rfl ?_
  refine z_aload_n B 0 dL_drawn_1 rfl rfl ?_
  refine z_slen0 B hX hbl dL_drawn_2 ?_
  refine z_icmpN_ge B 12 dL_drawn_3 (by decide) hk hL (fun c3 => ?_) (fun c3 => ?_)
  · refine z_ldc (v := (15525857)) B 1 rfl dL_drawn_12 ?_
    refine z_iload_n B 1 dL_drawn_14 rfl rfl ?_
    refine z_iconst (v := nI 3) B dL_drawn_15 (by decide) ?_
    refine z_iaddN B dL_drawn_16 ?_
    refine z_imul B dL_drawn_17 ?_
    refine z_sipush (v := nI 14081) B dL_drawn_18 (by decide) ?_
    refine z_iadd B dL_drawn_21 ?_
    refine z_ldc (v := (2147483647)) B 2 rfl dL_drawn_22 ?_
    refine z_iand B dL_drawn_24 ?_
    exact z_pret B hr dL_drawn_25 rfl (and_m _)
  · refine z_aload_n B 0 dL_drawn_6 rfl rfl ?_
    refine z_iload_n B 1 dL_drawn_7 rfl rfl ?_
    refine z_sld0 B hX hbl c3 hL dL_drawn_8 ?_
    refine z_goto B 22 dL_drawn_9 (by decide) ?_
    refine z_ldc (v := (2147483647)) B 2 rfl dL_drawn_22 ?_
    refine z_iand B dL_drawn_24 ?_
    exact z_pret B hr dL_drawn_25 rfl (and_m _)
