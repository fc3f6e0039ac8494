/-! allocation over known array types, constructors called, worlds joined -/
theorem va_RA_name {U : State} {cA : ClassId} {ty : FieldType} (h : va_RA U cA ty) : U.vm.findClass ("[" ++ ty.toString) = some cA := by
  cases ty with
  | object C =>
    obtain ⟨_, _, _, _, _, h4⟩ := h
    exact h4
  | _ => exact h
theorem z_kn {U : State} {D : va_G} {tys : List (ClassId × FieldType)} {cA cG : ClassId} {ty : FieldType} (hK : va_K D vwCl (tys ++ [(cA, ty)]) U) (t : Nat) (ht : tys[t]? = some (cG, ty)) : cA = cG := by
  have hl := (List.getElem?_eq_some_iff.mp ht).1
  have h1 := va_RA_name (hK.2 t (cG, ty) (by rw [List.getElem?_append_left hl]; exact ht)).2
  have h2 := va_RA_name (hK.2 tys.length (cA, ty) (by rw [List.getElem?_append_right (Nat.le_refl _), Nat.sub_self]; rfl)).2
  exact Option.some.inj (h2.symm.trans h1)
section ZN
variable {X : zX} {own : String} {cc : ByteArray} {nL : Nat} {Ts : List Cond} {rm : Room} {D : va_G} {tys : List (ClassId × FieldType)} {A : Nat → Prop} {Q : State → Prop} {w : va_W} {k n : Nat} {lv : List (Nat × Value)} {pc : Nat} {st : List Value}
theorem z_newi (B : zB X own cc nL Ts rm D tys (zI1 D A (zs X))) {cG : ClassId} (N t : Nat) (ht : tys[t]? = some (cG, .int)) (harr : Cond.arrayClass .int ∈ Ts) (hN : N < 2 ^ 27) (hk : k + 1 ≤ rm.cells) (hn : n + N ≤ rm.slots) (hdg : decode cc pc = .ok (.newarray .int, 2))
    (kk : ∀ q : Nat, zJ X nL (zI1 D A (zs X)) Q (w ++ [(q, .inl (cG, N, .inl (fun _ => nI 0)))]) (k + 1) (n + N) lv (pc + 2) (.ref q :: st)) : zJ X nL (zI1 D A (zs X)) Q w k n lv pc (.int (nI N) :: st) := by
  refine z_newa B (atype := .int) (ty := .int) harr rfl (a0 := (N, .inl (fun _ => nI 0))) (fun cA => rfl) (Int32.not_lt.mpr (nI_pos' (n := N) (by omega))) (nI_clamp (by omega)) (by show N * 4 ≤ 536870912; omega) hk hn hdg (fun q cA B2 => ?_)
  obtain rfl := z_kn B2.2.2.2.2.2.1 t ht
  exact kk q
theorem z_newz (B : zB X own cc nL Ts rm D tys (zI1 D A (zs X))) {cG : ClassId} (N t : Nat) (ht : tys[t]? = some (cG, .boolean)) (harr : Cond.arrayClass .boolean ∈ Ts) (hN : N < 2 ^ 27) (hk : k + 1 ≤ rm.cells) (hn : n + N ≤ rm.slots) (hdg : decode cc pc = .ok (.newarray .boolean, 2))
    (kk : ∀ q : Nat, zJ X nL (zI1 D A (zs X)) Q (w ++ [(q, .inl (cG, N, .inl (fun _ => nI 0)))]) (k + 1) (n + N) lv (pc + 2) (.ref q :: st)) : zJ X nL (zI1 D A (zs X)) Q w k n lv pc (.int (nI N) :: st) := by
  refine z_newa B (atype := .boolean) (ty := .boolean) harr rfl (a0 := (N, .inl (fun _ => nI 0))) (fun cA => rfl) (Int32.not_lt.mpr (nI_pos' (n := N) (by omega))) (nI_clamp (by omega)) (by show N * 1 ≤ 536870912; omega) hk hn hdg (fun q cA B2 => ?_)
  obtain rfl := z_kn B2.2.2.2.2.2.1 t ht
  exact kk q
theorem z_newl (B : zB X own cc nL Ts rm D tys (zI1 D A (zs X))) {cG : ClassId} (N t : Nat) (ht : tys[t]? = some (cG, .long)) (harr : Cond.arrayClass .long ∈ Ts) (hN : N < 2 ^ 26) (hk : k + 1 ≤ rm.cells) (hn : n + N ≤ rm.slots) (hdg : decode cc pc = .ok (.newarray .long, 2))
    (kk : ∀ q : Nat, zJ X nL (zI1 D A (zs X)) Q (w ++ [(q, .inl (cG, N, .inr (.inl (fun _ => 0))))]) (k + 1) (n + N) lv (pc + 2) (.ref q :: st)) : zJ X nL (zI1 D A (zs X)) Q w k n lv pc (.int (nI N) :: st) := by
  refine z_newa B (atype := .long) (ty := .long) harr rfl (a0 := (N, .inr (.inl (fun _ => 0)))) (fun cA => rfl) (Int32.not_lt.mpr (nI_pos' (n := N) (by omega))) (nI_clamp (by omega)) (by show N * 8 ≤ 536870912; omega) hk hn hdg (fun q cA B2 => ?_)
  obtain rfl := z_kn B2.2.2.2.2.2.1 t ht
  exact kk q
theorem z_newo (B : zB X own cc nL Ts rm D tys (zI1 D A (zs X))) {cG : ClassId} {C : String} {index : Nat} (N t : Nat) (ht : tys[t]? = some (cG, .object C)) (hcl : Cond.classLink own index C ∈ Ts) (hov : va_AO C (zs X)) (hN : N < 2 ^ 27) (hk : k + 1 ≤ rm.cells) (hn : n + N ≤ rm.slots) (hdg : decode cc pc = .ok (.anewarray index, 3))
    (kk : ∀ q : Nat, zJ X nL (zI1 D A (zs X)) Q (w ++ [(q, .inl (cG, N, .inr (.inr (.inr (.inr (fun _ => none))))))]) (k + 1) (n + N) lv (pc + 3) (.ref q :: st)) : zJ X nL (zI1 D A (zs X)) Q w k n lv pc (.int (nI N) :: st) := by
  refine z_newq B hcl hov (Int32.not_lt.mpr (nI_pos' (n := N) (by omega))) (nI_clamp (by omega)) (by omega) hk hn hdg (fun q cA B2 => ?_)
  obtain rfl := z_kn B2.2.2.2.2.2.1 t ht
  exact kk q
theorem z_objInit {I : zII} (B : zB X own cc nL Ts rm D tys I) {index a : Nat} (hk : Cond.methodLink own index Lib.objectInit ∈ Ts) (hi : Cond.instanceMethod Lib.objectInit ∈ Ts) (hc : Cond.code Lib.objectInit ⟨#[0xb1]⟩ 1 none ∈ Ts) (hcat : (st.map fun v => v.category).sum ≤ 8) (hf : 1 ≤ rm.frames) (hlc : 20 ≤ rm.locals) (hdg : decode cc pc = .ok (.invokespecial index, 3))
    (kk : zJ X nL I Q w k n lv (pc + 3) st) : zJ X nL I Q w k n lv pc (.ref a :: st) := by
  intro H locs ls hI hL
  have hR := B.2.2.2.2.2.2.2.1
  refine W.objInit (g := F0 (zm X) pc ls (.ref a :: st)) (a := a) (rest := st) B.1 B.2.1 B.2.2.2.1 (B.2.2.2.2.1 _ hk) (B.2.2.2.2.1 _ hi) (B.2.2.2.2.1 _ hc) rfl (hL.1.trans B.2.2.1.symm) rfl hdg (by rw [hR]; exact hf) ?_ (kk H locs ls hI hL)
  have := lv_room (m := zm X) (pc := pc) (ls := ls) (rest := st) hcat
  rw [hR]
  exact Nat.le_trans (Nat.add_le_add_right this 12) hlc
theorem z_aload_nQ {I : zII} (B : zB X own cc nL Ts rm D tys I) {r : Option Nat} {c : Fin 4} {i : Nat} (j : Nat) (hdg : decode cc pc = .ok (.aload_n c, 1)) (hi : (c : Nat) = i) (hl : lv[j]? = some (i, va_rf r)) (kk : zJ X nL I Q w k n lv (pc + 1) (va_rf r :: st)) : zJ X nL I Q w k n lv pc st := by
  cases r with
  | none => exact z_aload_nN B j hdg hi hl kk
  | some x => exact z_aload_n B j hdg hi hl kk
theorem rf_nar (r : Option Nat) (C : String) : narrow (.object C) (va_rf r) = va_rf r := by cases r <;> rfl
theorem rf_fit (r : Option Nat) (C : String) : fits (.object C) (va_rf r) = true := by cases r <;> rfl
/-- the cells at the places is -/
theorem z_pick {w' : va_W} (is : List Nat) (hn : va_nd is = true) (hs : is.map (fun i => w[i]?) = w'.map some) (kk : zJ X nL (zI1 D A (zs X)) Q w' k n lv pc st) : zJ X nL (zI1 D A (zs X)) Q w k n lv pc st := by
  rintro H locs ls ⟨hP, hD, hS, hA⟩ hL
  refine kk H locs ls ⟨z_sub hP (fun j q hj => ?_), hD.sub is hn hs, hS, hA⟩ hL
  have h1 : (is.map (fun i => w[i]?))[j]? = some (some q) := by rw [hs, List.getElem?_map, hj]; rfl
  rw [List.getElem?_map] at h1
  cases hi : is[j]? with
  | none => rw [hi] at h1; cases h1
  | some i => rw [hi] at h1; exact List.mem_of_getElem? (Option.some.inj h1)
theorem va_D_swap {w1 w2 : va_W} (h : va_D A (w1 ++ w2)) : va_D A (w2 ++ w1) := by
  have key : ∀ (i : Nat) (p : Nat × va_E), (w2 ++ w1)[i]? = some p → ∃ j, (w1 ++ w2)[j]? = some p ∧ ((i < w2.length ∧ j = w1.length + i) ∨ (w2.length ≤ i ∧ i = w2.length + j ∧ j < w1.length)) := by
    intro i p hi
    by_cases hl : i < w2.length
    · rw [List.getElem?_append_left hl] at hi
      exact ⟨w1.length + i, by rw [List.getElem?_append_right (by omega), Nat.add_sub_cancel_left]; exact hi, Or.inl ⟨hl, rfl⟩⟩
    · rw [List.getElem?_append_right (by omega)] at hi
      have h1 := (List.getElem?_eq_some_iff.mp hi).1
      exact ⟨i - w2.length, by rw [List.getElem?_append_left h1]; exact hi, Or.inr ⟨by omega, by omega, h1⟩⟩
  refine ⟨fun i j p q hi hj hpq => ?_, fun i p hi => ?_⟩
  · obtain ⟨i2, h1, h2⟩ := key i p hi
    obtain ⟨j2, h3, h4⟩ := key j q hj
    have := h.1 i2 j2 p q h1 h3 hpq
    omega
  · obtain ⟨i2, h1, -⟩ := key i p hi
    exact h.2 i2 p h1
theorem z_swap {w1 w2 : va_W} (kk : zJ X nL (zI1 D A (zs X)) Q (w2 ++ w1) k n lv pc st) : zJ X nL (zI1 D A (zs X)) Q (w1 ++ w2) k n lv pc st := by
  rintro H locs ls ⟨hP, hD, hS, hA⟩ hL
  exact kk H locs ls ⟨z_sub hP (fun j q hj => by have := List.mem_of_getElem? hj; rw [List.mem_append] at this ⊢; exact this.symm), va_D_swap hD, hS, hA⟩ hL
theorem z_cut {w1 wc : va_W} {H : Heap} (hP : va_P D vwCl (w1 ++ wc) H) (hD : va_D A (w1 ++ wc)) : (va_P D vwCl w1 H ∧ va_D A w1) ∧ (va_P D vwCl wc H ∧ va_D A wc) ∧ ∀ (i j : Nat) (p q : Nat × va_E), w1[i]? = some p → wc[j]? = some q → p.1 ≠ q.1 := by
  have l1 : ∀ (i : Nat) (p : Nat × va_E), w1[i]? = some p → (w1 ++ wc)[i]? = some p := fun i p hi => by rw [List.getElem?_append_left (List.getElem?_eq_some_iff.mp hi).1]; exact hi
  have l2 : ∀ (i : Nat) (p : Nat × va_E), wc[i]? = some p → (w1 ++ wc)[w1.length + i]? = some p := fun i p hi => by rw [List.getElem?_append_right (by omega), Nat.add_sub_cancel_left]; exact hi
  refine ⟨⟨fun i p hi => hP i p (l1 i p hi), fun i j p q hi hj => hD.1 i j p q (l1 i p hi) (l1 j q hj), fun i p hi => hD.2 i p (l1 i p hi)⟩, ⟨fun i p hi => hP _ p (l2 i p hi), fun i j p q hi hj h => by have := hD.1 _ _ p q (l2 i p hi) (l2 j q hj) h; omega, fun i p hi => hD.2 _ p (l2 i p hi)⟩, fun i j p q hi hj h => ?_⟩
  have := hD.1 _ _ p q (l1 i p hi) (l2 j q hj) h
  have := (List.getElem?_eq_some_iff.mp hi).1
  omega
theorem z_join {w1 wc w' : va_W} {H H1 : Heap} (hP : va_P D vwCl (w1 ++ wc) H) (hD : va_D A (w1 ++ wc)) (hk : ∀ q : Nat, q < H.size → ¬ va_A wc H.size q → H1[q]? = H[q]?) (hF : ∀ q, va_A wc H.size q → A q) (hP1 : va_P D vwCl w' H1) (hD1 : va_D (va_A wc H.size) w') : va_P D vwCl (w1 ++ w') H1 ∧ va_D A (w1 ++ w') := by
  obtain ⟨⟨p1, d1⟩, -, ne⟩ := z_cut hP hD
  have hx : ∀ (i : Nat) (p : Nat × va_E), w1[i]? = some p → ¬ va_A wc H.size p.1 := by
    rintro i p hi (⟨j, e, hj⟩ | h)
    · exact ne i j p (p.1, e) hi hj rfl
    · have := (p1 i p hi).lt; omega
  exact ⟨(p1.kept (fun i p hi => hk p.1 (p1 i p hi).lt (hx i p hi))).app hP1, d1.app (hD1.weaken (fun _ _ _ h => hF _ h)) (fun i j p q hi hj e => hx i p hi (e ▸ hD1.2 j q hj))⟩
end ZN
/-! facts of the state that constructors want: the private ones link as nest mates; the array class over Copy -/
def zNl : List (String × Nat × MethodName) := [(RX6, 9, yX3_init), (RX6, 21, yX0_init), (RX0, 39, yX4_init), (RX6, 28, yX5_init), (RX6, 35, yX2_init), (RX1, 9, yX4_init)]
def zNF (U : State) : Prop := (∀ q ∈ zNl, va_Nw (.methodLinkNest q.1 q.2.1 q.2.2 "LedgerKiln") U) ∧ va_AO "LedgerKiln$Copy" U
theorem zNF.to {s U : State} (hW : s.WarmedH U.vm) (h : zNF s) : zNF U := ⟨fun q hq => (h.1 q hq).warmM hW, h.2.moved hW.alike⟩
theorem zNF.calling {U : State} {g : JFrame} {mk : MethodId} {a : Array Value} (h : zNF U) : zNF (U.calling g mk a) := ⟨fun q hq => va_tabs (u := U) (U := U.calling g mk a) rfl rfl (h.1 q hq), va_AO.moved (u := U) (U := U.calling g mk a) (Vm.Alike.refl U.vm) h.2⟩
def zPreF (D : va_G) (tys : List (ClassId × FieldType)) (w : va_W) (sz : Nat) (U : State) : Prop := zPre D tys w sz U ∧ zNF U
theorem zF_blind {D : va_G} {tys : List (ClassId × FieldType)} {w : va_W} {As : List Value} {sz : Nat} : FrameBlind (va_Pc As (zPreF D tys w sz)) := fun a U g mk q => ⟨q.1, zPre_moved q.2.1, q.2.2.calling⟩
def zFutV (l : Launch) (y : MethodName) (ws : List Cond) (rm : Room) (D : va_G) (tys : List (ClassId × FieldType)) (w : va_W) (As : List Value) (post : va_W → Prop) (mc ms : Nat) : Prop :=
  ∀ sz, Met l y ws rm (va_Pc As (zPreF D tys w sz)) (va_Qv post (zEnd D tys w sz) (va_A w sz)) mc ms (va_A w sz)
def zFutI (l : Launch) (y : MethodName) (ws : List Cond) (rm : Room) (D : va_G) (tys : List (ClassId × FieldType)) (w : va_W) (As : List Value) (post : Int32 → va_W → Prop) (mc ms : Nat) : Prop :=
  ∀ sz, Met l y ws rm (va_Pc As (zPreF D tys w sz)) (va_Qi post (zEnd D tys w sz) (va_A w sz)) mc ms (va_A w sz)
section ZC
variable {l : Launch} {y : MethodName} {ws ws' : List Cond} {rm : Room} {D : va_G} {tys : List (ClassId × FieldType)} {w : va_W} {As : List Value} {cc : ByteArray} {maxL : Nat} {ret : Option FieldType} {own : String}
theorem zFutV_of {post : va_W → Prop} {mc ms : Nat} (lv : List (Nat × Value)) (hy : plainName y.cls = true) (ho : y.cls = own) (hw : ws = Cond.code y cc maxL ret :: ws') (hlv : lv_args 0 As = lv) (hn : (lg_sl As).length ≤ maxL)
    (body : ∀ (X : zX) (A : Nat → Prop), A = va_A w (zs X).heap.size → zl X = l → zB X own cc maxL ws rm D tys (zI1 D A (zs X)) → (zmeth X).sig.returnType = ret → (zmeth X).name = y.name → zNF (zs X) → zJ X maxL (zI1 D A (zs X)) (zQe X (va_Qv post (zEnd D tys w (zs X).heap.size) A) mc ms A) w 0 0 lv 0 []) : zFutV l y ws rm D tys w As post mc ms := by
  intro sz
  refine Met.ofW (cc := cc) (maxL := maxL) (ret := ret) hy hw ?_
  intro p e s m args below meth c s₁ B hml hv
  obtain ⟨rfl, ⟨rfl, hP, hK, hD⟩, hF⟩ := hv
  rw [lg_entry_eq]
  have h := body (p, l, e, (headSpec ws rm).room, s, m, As.toArray, below, meth, c) _ rfl rfl ⟨B.exec, B.bytes, hml, ho ▸ findClass_of_methodNamed B.named, atoms_spec (ws := ws) B.pre, hK, fun w H locs h => h.1, rfl, B.notSynchronized⟩ B.returns (name_of_methodNamed B.named B.method).1 hF
  exact h s.heap [] _ ⟨hP, hD.self, va_S.rf, fun q h => Or.inr h⟩ (hlv ▸ lv_entry As hn)
theorem zFutI_of {post : Int32 → va_W → Prop} {mc ms : Nat} (lv : List (Nat × Value)) (hy : plainName y.cls = true) (ho : y.cls = own) (hw : ws = Cond.code y cc maxL ret :: ws') (hlv : lv_args 0 As = lv) (hn : (lg_sl As).length ≤ maxL)
    (body : ∀ (X : zX) (A : Nat → Prop), A = va_A w (zs X).heap.size → zl X = l → zB X own cc maxL ws rm D tys (zI1 D A (zs X)) → (zmeth X).sig.returnType = ret → (zmeth X).name = y.name → zNF (zs X) → zJ X maxL (zI1 D A (zs X)) (zQe X (va_Qi post (zEnd D tys w (zs X).heap.size) A) mc ms A) w 0 0 lv 0 []) : zFutI l y ws rm D tys w As post mc ms := by
  intro sz
  refine Met.ofW (cc := cc) (maxL := maxL) (ret := ret) hy hw ?_
  intro p e s m args below meth c s₁ B hml hv
  obtain ⟨rfl, ⟨rfl, hP, hK, hD⟩, hF⟩ := hv
  rw [lg_entry_eq]
  have h := body (p, l, e, (headSpec ws rm).room, s, m, As.toArray, below, meth, c) _ rfl rfl ⟨B.exec, B.bytes, hml, ho ▸ findClass_of_methodNamed B.named, atoms_spec (ws := ws) B.pre, hK, fun w H locs h => h.1, rfl, B.notSynchronized⟩ B.returns (name_of_methodNamed B.named B.method).1 hF
  exact h s.heap [] _ ⟨hP, hD.self, va_S.rf, fun q h => Or.inr h⟩ (hlv ▸ lv_entry As hn)
end ZC
section ZL
variable {X : zX} {l : Launch} {own : String} {cc : ByteArray} {nL : Nat} {Ts : List Cond} {rm : Room} {D : va_G} {tys : List (ClassId × FieldType)} {I : zII} {Q : State → Prop} {w1 wc : va_W} {k n : Nat} {lv : List (Nat × Value)} {pc : Nat} {st st0 : List Value} {A : Nat → Prop}
variable {y : MethodName} {ws ws' : List Cond} {rm' : Room} {bytes : ByteArray} {maxL index : Nat} {ret : Option FieldType} {C : String} {T : u_T} {N ci b : Nat} {fs : List Value} {As : List Value}
/-- a constructor called; its world wc is the last part of the caller's -/
theorem z_callI {post : va_W → Prop} {mc ms k' n' : Nat} (B : zB X own cc nL Ts rm D tys (zI1 D A (zs X))) (hNF : zNF (zs X)) (hl : zl X = l) (hM : zFutV l y ws rm' D tys wc (.ref b :: As) post mc ms) (hG : GoodIn Ts ws) (hlk : Cond.methodLink own index y ∈ Ts) (hii : Cond.initialized y.cls ∈ Ts) (him : Cond.instanceMethod y ∈ Ts) (hy : y.name = "<init>") (hw : ws = Cond.code y bytes maxL none :: ws') (hc0 : rm'.cells = mc ∧ rm'.slots = ms) (hd : zNm y C As.length) (hR : zRm rm rm' maxL)
    (hst : st0 = As.reverse ++ .ref b :: st) (hcat : (st.map fun v => v.category).sum ≤ 8) (hdg : decode cc pc = .ok (.invokespecial index, 3))
    (hk : k + mc = k') (hn : n + ms = n') (hk' : k' ≤ rm.cells) (hn' : n' ≤ rm.slots) (kk : ∀ (w' : va_W), post w' → zJ X nL (zI1 D A (zs X)) Q (w1 ++ w') k' n' lv (pc + 3) st) : zJ X nL (zI1 D A (zs X)) Q (w1 ++ wc) k n lv pc st0 := by
  rintro H locs ls ⟨hP, hD, hS, hA⟩ hL
  subst hl; subst hk; subst hn
  obtain ⟨-, ⟨hPc, hDc⟩, -⟩ := z_cut hP hD
  have hF := z_freeA hDc hS hA
  refine va_callv (va_runI ⟨B.1, B.2.1, B.2.2.1, B.2.2.2.1, B.2.2.2.2.1⟩ (hM H.size) (cwI As.length B.2.2.2.2.1 hG hw hc0.1 hc0.2 (B.2.2.2.2.1 _ hii) (B.2.2.2.2.1 _ hlk) (B.2.2.2.2.1 _ him) hy hd.2 (B.2.2.2.2.2.2.2.1 ▸ hR))
    ⟨zF_blind, fun U hU hW => ⟨rfl, ⟨by rw [hU], by rw [hU]; exact hPc, va_K.moved hW.alike B.2.2.2.2.2.1, hDc.weaken (fun _ _ _ _ => trivial)⟩, hNF.to hW⟩⟩ rfl rfl hL.1 hst (lv_room hcat) hdg ⟨B.2.2.2.2.2.2.2.1 ▸ hk', B.2.2.2.2.2.2.2.1 ▸ hn'⟩) hS (fun q _ h => hF q h) hF ?_
  intro u t H1 locs1 ht hvm hpost hB hz hk1 hS1
  obtain ⟨hP1, hK1, hD1⟩ := hB
  rw [ht] at hP1
  obtain ⟨j1, j2⟩ := z_join hP hD hk1 hF hP1 hD1
  exact kk u hpost H1 locs1 ls ⟨j1, j2, hS1, hA⟩ hL
theorem z_callIN {post : va_W → Prop} {mc ms k' n' : Nat} (B : zB X own cc nL Ts rm D tys (zI1 D A (zs X))) (hNF : zNF (zs X)) (hl : zl X = l) (hM : zFutV l y ws rm' D tys wc (.ref b :: As) post mc ms) (hG : GoodIn Ts ws) (hlk : (own, index, y) ∈ zNl) (hii : Cond.initialized y.cls ∈ Ts) (him : Cond.instanceMethod y ∈ Ts) (hy : y.name = "<init>") (hw : ws = Cond.code y bytes maxL none :: ws') (hc0 : rm'.cells = mc ∧ rm'.slots = ms) (hd : zNm y C As.length) (hR : zRm rm rm' maxL)
    (hst : st0 = As.reverse ++ .ref b :: st) (hcat : (st.map fun v => v.category).sum ≤ 8) (hdg : decode cc pc = .ok (.invokespecial index, 3))
    (hk : k + mc = k') (hn : n + ms = n') (hk' : k' ≤ rm.cells) (hn' : n' ≤ rm.slots) (kk : ∀ (w' : va_W), post w' → zJ X nL (zI1 D A (zs X)) Q (w1 ++ w') k' n' lv (pc + 3) st) : zJ X nL (zI1 D A (zs X)) Q (w1 ++ wc) k n lv pc st0 := by
  rintro H locs ls ⟨hP, hD, hS, hA⟩ hL
  subst hl; subst hk; subst hn
  obtain ⟨-, ⟨hPc, hDc⟩, -⟩ := z_cut hP hD
  have hF := z_freeA hDc hS hA
  refine va_callv (va_runIN (host := "LedgerKiln") ⟨B.1, B.2.1, B.2.2.1, B.2.2.2.1, B.2.2.2.2.1⟩ (hM H.size) ⟨va_cnB As.length B.2.2.2.2.1 hG hw hc0.1 hc0.2 (hNF.1 _ hlk) (B.2.2.2.2.1 _ hii) hd.2 (B.2.2.2.2.2.2.2.1 ▸ hR), hy, B.2.2.2.2.1 _ him⟩
    ⟨zF_blind, fun U hU hW => ⟨rfl, ⟨by rw [hU], by rw [hU]; exact hPc, va_K.moved hW.alike B.2.2.2.2.2.1, hDc.weaken (fun _ _ _ _ => trivial)⟩, hNF.to hW⟩⟩ rfl rfl hL.1 hst (lv_room hcat) hdg ⟨B.2.2.2.2.2.2.2.1 ▸ hk', B.2.2.2.2.2.2.2.1 ▸ hn'⟩) hS (fun q _ h => hF q h) hF ?_
  intro u t H1 locs1 ht hvm hpost hB hz hk1 hS1
  obtain ⟨hP1, hK1, hD1⟩ := hB
  rw [ht] at hP1
  obtain ⟨j1, j2⟩ := z_join hP hD hk1 hF hP1 hD1
  exact kk u hpost H1 locs1 ls ⟨j1, j2, hS1, hA⟩ hL
end ZL
