/-! rows for the law: callers that catch, worlds side by side -/
def zCF (U : State) : Prop := ∀ E1 ∈ zEx, ∀ E2 ∈ zEx, E1 ≠ E2 → va_Nc E1 E2 U
def zLF (A : Nat → Prop) (U : State) (H : Heap) : Prop := zTF A U H ∧ zNF U ∧ zCF U
theorem zLF.to {A B : Nat → Prop} {s U : State} {H H1 : Heap} (hW : s.WarmedH U.vm) (h : zLF A s H) (hq : ∀ a : Nat, a < H.size → ¬ A a → H1[a]? = H[a]?) (hAB : ∀ q, B q → A q) : zLF B U H1 :=
  ⟨h.1.to hW hq hAB, h.2.1.to hW, fun E1 h1 E2 h2 ne => (h.2.2 E1 h1 E2 h2 ne).moved hW.alike⟩
theorem zLF.calling {A : Nat → Prop} {U : State} {g : JFrame} {mk : MethodId} {a : Array Value} (h : zLF A U U.heap) : zLF A (U.calling g mk a) (U.calling g mk a).heap :=
  ⟨h.1.calling, h.2.1.calling, fun E1 h1 E2 h2 ne => (h.2.2 E1 h1 E2 h2 ne).moved (u := U) (U := U.calling g mk a) (Vm.Alike.refl U.vm)⟩
def zPreL (D : va_G) (tys : List (ClassId × FieldType)) (w : va_W) (sz : Nat) (U : State) : Prop := zPre D tys w sz U ∧ zLF (va_A w sz) U U.heap
theorem zL_blind {D : va_G} {tys : List (ClassId × FieldType)} {w : va_W} {As : List Value} {sz : Nat} : FrameBlind (va_Pc As (zPreL D tys w sz)) := fun a U g mk q => ⟨q.1, zPre_moved q.2.1, q.2.2.calling⟩
def zThrL (l : Launch) (y : MethodName) (ws : List Cond) (rm : Room) (D : va_G) (tys : List (ClassId × FieldType)) (w : va_W) (As : List Value) (post : Int32 → va_W → Prop) (xp : String → va_W → Prop) (mc ms : Nat) : Prop :=
  ∀ sz, vx_Met l y ws rm (va_Pc As (zPreL D tys w sz)) (va_Qi post (zEnd D tys w sz) (va_A w sz)) (zXC D tys w sz xp) mc ms (va_A w sz)
theorem zThrI.L {l : Launch} {y : MethodName} {ws : List Cond} {rm : Room} {D : va_G} {tys : List (ClassId × FieldType)} {w : va_W} {As : List Value} {post : Int32 → va_W → Prop} {xp : String → va_W → Prop} {mc ms : Nat} (h : zThrI l y ws rm D tys w As post xp mc ms) : zThrL l y ws rm D tys w As post xp mc ms := by
  intro sz p e h1 h2 h3 s m args below hf ha hP hK
  exact h sz p e h1 h2 h3 s m args below hf ha ⟨hP.1, hP.2.1, hP.2.2.1⟩ hK
def zNoX : String → State → State → Prop := vx_X (S := Unit) (fun _ => False) (fun _ _ _ => False) (fun _ => False)
/-- a method that catches all that it calls throw -/
def zWrp (l : Launch) (y : MethodName) (ws : List Cond) (rm : Room) (D : va_G) (tys : List (ClassId × FieldType)) (w : va_W) (As : List Value) (post : Int32 → va_W → Prop) (mc ms : Nat) : Prop :=
  ∀ sz, vx_Met l y ws rm (va_Pc As (zPreL D tys w sz)) (va_Qi post (zEnd D tys w sz) (va_A w sz)) zNoX mc ms (va_A w sz)
section ZWA
variable {l : Launch} {y : MethodName} {ws ws' : List Cond} {rm : Room} {D : va_G} {tys : List (ClassId × FieldType)} {w : va_W} {As : List Value} {cc : ByteArray} {maxL : Nat} {ret : Option FieldType} {own : String}
theorem zThrL_of {post : Int32 → va_W → Prop} {xp : String → va_W → Prop} {mc ms : Nat} (lv : List (Nat × Value)) (hy : plainName y.cls = true) (ho : y.cls = own) (hw : ws = Cond.code y cc maxL ret :: ws') (hlv : lv_args 0 As = lv) (hn : (lg_sl As).length ≤ maxL)
    (body : ∀ (X : zX) (A : Nat → Prop), A = va_A w (zs X).heap.size → zl X = l → zB X own cc maxL ws rm D tys (zI1 D A (zs X)) → (zmeth X).sig.returnType = ret → (zmeth X).name = y.name → (∀ x ∈ (zc X).exceptionTable.toList, False) → zLF A (zs X) (zs X).heap → zJ X maxL (zI1 D A (zs X)) (zQx X (va_Qi post (zEnd D tys w (zs X).heap.size) A) (zXC D tys w (zs X).heap.size xp) mc ms A) w 0 0 lv 0 []) : zThrL l y ws rm D tys w As post xp mc ms := by
  intro sz
  refine vx_ofW (cc := cc) (maxL := maxL) (ret := ret) hy hw ?_
  intro p e s m args below meth c s₁ B hml ht hv
  obtain ⟨rfl, ⟨rfl, hP, hK, hD⟩, hT⟩ := hv
  rw [lg_entry_eq]
  have h := body (p, l, e, (headSpec ws rm).room, s, m, As.toArray, below, meth, c) _ rfl rfl ⟨B.exec, B.bytes, hml, ho ▸ findClass_of_methodNamed B.named, atoms_spec (ws := ws) B.pre, hK, fun w H locs h => h.1, rfl, B.notSynchronized⟩ B.returns (name_of_methodNamed B.named B.method).1 ht hT
  exact h s.heap [] _ ⟨hP, hD.self, va_S.rf, fun q h => Or.inr h⟩ (hlv ▸ lv_entry As hn)
theorem zWrp_of {post : Int32 → va_W → Prop} {mc ms : Nat} {hh : List (Nat × Nat × Nat × Nat)} (lv : List (Nat × Value)) (hy : plainName y.cls = true) (ho : y.cls = own) (hw : ws = Cond.codeWith y cc maxL ret hh :: ws') (hlv : lv_args 0 As = lv) (hn : (lg_sl As).length ≤ maxL)
    (body : ∀ (X : zX) (A : Nat → Prop), A = va_A w (zs X).heap.size → zl X = l → zB X own cc maxL ws rm D tys (zI1 D A (zs X)) → (zmeth X).sig.returnType = ret → (zc X).exceptionTable.toList = tableOf hh → zLF A (zs X) (zs X).heap → zJ X maxL (zI1 D A (zs X)) (zQe X (va_Qi post (zEnd D tys w (zs X).heap.size) A) mc ms A) w 0 0 lv 0 []) : zWrp l y ws rm D tys w As post mc ms := by
  intro sz
  refine vx_ofWH (cc := cc) (maxL := maxL) (ret := ret) (hh := hh) hy hw ?_
  intro p e s m args below meth c s₁ B hml hv
  obtain ⟨rfl, ⟨rfl, hP, hK, hD⟩, hT⟩ := hv
  rw [lg_entry_eq]
  have hts := atoms_spec (ws := ws) B.pre
  have h := body (p, l, e, (headSpec ws rm).room, s, m, As.toArray, below, meth, c) _ rfl rfl ⟨B.exec, B.bytes, hml, ho ▸ findClass_of_methodNamed B.named, hts, hK, fun w H locs h => h.1, rfl, B.notSynchronized⟩ B.returns (vx_table (x := y) B (hts _ (by rw [hw]; exact List.mem_cons_self))) hT
  exact vx_ret (h s.heap [] _ ⟨hP, hD.self, va_S.rf, fun q h => Or.inr h⟩ (hlv ▸ lv_entry As hn))
end ZWA
/-- behind a throw of E out of a call at pc -/
def zJx (X : zX) (nL : Nat) (I : zII) (Q : State → Prop) (w : va_W) (k n : Nat) (lv : List (Nat × Value)) (pc : Nat) (E : String) : Prop :=
  ∀ (H : Heap) (locs : List Loc) (ls : Array Slot) (ce : Cell) (q : Addr) (st : List Value), I w H locs → lv_has ls nL lv → H[q]? = some ce → ce.vm = .none → (zs X).vm.findClass E = some ce.cls → vx_W (zp X) (zl X) (ze X) (zR X) (zs X) (zm X) (za X) (zb X) (zmeth X) (zc X) H locs k n Q (F0 (zm X) pc ls st) q
section ZWB
variable {X : zX} {l : Launch} {own : String} {cc : ByteArray} {nL : Nat} {Ts : List Cond} {rm : Room} {D : va_G} {tys : List (ClassId × FieldType)} {Q : State → Prop} {w w1 wc : va_W} {k n : Nat} {lv : List (Nat × Value)} {pc : Nat} {st st0 : List Value} {A : Nat → Prop}
variable {y : MethodName} {ws ws' : List Cond} {rm' : Room} {bytes : ByteArray} {maxL index : Nat} {ret : Option FieldType} {C : String} {T : u_T} {N ci b : Nat} {fs : List Value} {As : List Value}
theorem z_catch (B : zB X own cc nL Ts rm D tys (zI1 D A (zs X))) (hLF : zLF A (zs X) (zs X).heap) {hh : List (Nat × Nat × Nat × Nat)} (htab : (zc X).exceptionTable.toList = tableOf hh) {E : String} (hE : E ∈ zEx) (pre : List ExceptionTableEntry) (x : ExceptionTableEntry) (suf : List ExceptionTableEntry) (hsplit : tableOf hh = pre ++ x :: suf)
    (hpre : ∀ z ∈ pre, z.catchType ≠ 0 ∧ ∃ nm, nm ∈ zEx ∧ Cond.classLink own z.catchType nm ∈ Ts ∧ E ≠ nm) (hx : covers x pc = true) (h0 : x.catchType ≠ 0) (hlink : Cond.classLink own x.catchType E ∈ Ts) (kk : ∀ q : Nat, zJ X nL (zI1 D A (zs X)) Q w k n lv x.handlerPc [.ref q]) : zJx X nL (zI1 D A (zs X)) Q w k n lv pc E := by
  intro H locs ls ce q st hI hL hcell hv hcl
  exact vx_catch B.2.2.2.1 pre x suf (htab.trans hsplit) (fun z hz => by
    obtain ⟨c0, nm, hn, hm, ne⟩ := hpre z hz
    exact Or.inr ⟨c0, nm, B.2.2.2.2.1 _ hm, hLF.2.2 E hE nm hn ne⟩) hx h0 (B.2.2.2.2.1 _ hlink) (va_tabs rfl rfl (hLF.1.2.2.1.1 E hE)) hcell hv hcl (kk q H locs ls hI hL)
/-- a call whose throws are caught here; the callee's world is the last part of the caller's -/
theorem z_callC {post : Int32 → va_W → Prop} {xp : String → va_W → Prop} {mc ms k' n' : Nat} (B : zB X own cc nL Ts rm D tys (zI1 D A (zs X))) (hLF : zLF A (zs X) (zs X).heap) (hl : zl X = l) (hM : zThrL l y ws rm' D tys wc (.ref b :: As) post xp mc ms) (hG : GoodIn Ts (wsV own index C y ws)) (hw : ws = Cond.code y bytes maxL ret :: ws') (hc0 : rm'.cells = mc ∧ rm'.slots = ms) (hd : zNm y C As.length) (hR : zRm rm rm' maxL)
    (q : Nat) (hr : wc[q]? = some (b, .inr (ci, fs))) (hC : vwCl[ci]? = some (C, T, N)) (hst : st0 = As.reverse ++ .ref b :: st) (hcat : (st.map fun v => v.category).sum ≤ 8) (hdg : decode cc pc = .ok (.invokevirtual index, 3))
    (hk : k + mc = k') (hn : n + ms = n') (hk' : k' ≤ rm.cells) (hn' : n' ≤ rm.slots) (kx : ∀ (E : String) (w' : va_W), xp E w' → zJx X nL (zI1 D A (zs X)) Q (w1 ++ w') k' n' lv pc E) (kk : ∀ (r : Int32) (w' : va_W), post r w' → zJ X nL (zI1 D A (zs X)) Q (w1 ++ w') k' n' lv (pc + 3) (.int r :: st)) : zJ X nL (zI1 D A (zs X)) Q (w1 ++ wc) k n lv pc st0 := by
  rintro H locs ls ⟨hP, hD, hS, hA⟩ hL
  subst hl; subst hk; subst hn
  obtain ⟨-, ⟨hPc, hDc⟩, -⟩ := z_cut hP hD
  have hF := z_freeA hDc hS hA
  refine vx_calli (vx_runV ⟨B.1, B.2.1, B.2.2.1, B.2.2.2.1, B.2.2.2.2.1⟩ (hM H.size) (cwV As.length B.2.2.2.2.1 hG hw hc0.1 hc0.2 hd (B.2.2.2.2.2.2.2.1 ▸ hR))
    ⟨zL_blind, va_recv B.2.2.2.2.2.1 hPc hC hr, fun U hU hW => ⟨rfl, ⟨by rw [hU], by rw [hU]; exact hPc, va_K.moved hW.alike B.2.2.2.2.2.1, hDc.weaken (fun _ _ _ _ => trivial)⟩, by rw [hU]; exact hLF.to hW hS.2.1 hF⟩⟩ rfl rfl hL.1 hst (lv_room hcat) hdg ⟨B.2.2.2.2.2.2.2.1 ▸ hk', B.2.2.2.2.2.2.2.1 ▸ hn'⟩) hS (fun q _ h => hF q h) hF (fun q _ h => hF q h) (fun E ce q9 u t H1 locs1 ht hvm hpx hB hz hk1 hS1 hce hcv hcl => by
      obtain ⟨rfl, hP1, hK1, hD1⟩ := hB
      rw [ht] at hP1
      obtain ⟨j1, j2⟩ := z_join hP hD hk1 hF hP1 hD1
      exact kx _ _ hpx H1 locs1 ls ce q9 _ ⟨j1, j2, hS1, hA⟩ hL hce hcv hcl) ?_
  intro r u t H1 locs1 ht hvm hpost hB hz hk1 hS1
  obtain ⟨hP1, hK1, hD1⟩ := hB
  rw [ht] at hP1
  obtain ⟨j1, j2⟩ := z_join hP hD hk1 hF hP1 hD1
  exact kk r u hpost H1 locs1 ls ⟨j1, j2, hS1, hA⟩ hL
/-- a static call of a method that catches all -/
theorem z_callW {post : Int32 → va_W → Prop} {mc ms k' n' : Nat} {hh : List (Nat × Nat × Nat × Nat)} (B : zB X own cc nL Ts rm D tys (zI1 D A (zs X))) (hLF : zLF A (zs X) (zs X).heap) (hl : zl X = l) (hM : zWrp l y ws rm' D tys wc As post mc ms) (hG : GoodIn Ts (va_wsS own index y ws)) (hw : ws = Cond.codeWith y bytes maxL ret hh :: ws') (hc0 : rm'.cells = mc ∧ rm'.slots = ms) (hd : zNm y own As.length) (hR : zRm rm rm' maxL)
    (hst : st0 = As.reverse ++ st) (hcat : (st.map fun v => v.category).sum ≤ 8) (hdg : decode cc pc = .ok (.invokestatic index, 3))
    (hk : k + mc = k') (hn : n + ms = n') (hk' : k' ≤ rm.cells) (hn' : n' ≤ rm.slots) (kk : ∀ (r : Int32) (w' : va_W), post r w' → zJ X nL (zI1 D A (zs X)) Q (w1 ++ w') k' n' lv (pc + 3) (.int r :: st)) : zJ X nL (zI1 D A (zs X)) Q (w1 ++ wc) k n lv pc st0 := by
  rintro H locs ls ⟨hP, hD, hS, hA⟩ hL
  subst hl; subst hk; subst hn
  obtain ⟨-, ⟨hPc, hDc⟩, -⟩ := z_cut hP hD
  have hF := z_freeA hDc hS hA
  refine vx_calli (vx_runSX (hh := hh) ⟨B.1, B.2.1, B.2.2.1, B.2.2.2.1, B.2.2.2.2.1⟩ (hM H.size) (vx_cwSW As.length B.2.2.2.2.1 hG hw hc0.1 hc0.2 hd.2 (B.2.2.2.2.2.2.2.1 ▸ hR))
    ⟨zL_blind, fun U hU hW => ⟨rfl, ⟨by rw [hU], by rw [hU]; exact hPc, va_K.moved hW.alike B.2.2.2.2.2.1, hDc.weaken (fun _ _ _ _ => trivial)⟩, by rw [hU]; exact hLF.to hW hS.2.1 hF⟩⟩ rfl rfl hL.1 hst (lv_room hcat) hdg ⟨B.2.2.2.2.2.2.2.1 ▸ hk', B.2.2.2.2.2.2.2.1 ▸ hn'⟩) hS (fun q _ h => hF q h) hF (fun q _ h => h.elim) (fun E ce q9 u t H1 locs1 ht hvm hpx => hpx.elim) ?_
  intro r u t H1 locs1 ht hvm hpost hB hz hk1 hS1
  obtain ⟨hP1, hK1, hD1⟩ := hB
  rw [ht] at hP1
  obtain ⟨j1, j2⟩ := z_join hP hD hk1 hF hP1 hD1
  exact kk r u hpost H1 locs1 ls ⟨j1, j2, hS1, hA⟩ hL
/-- a call of a writer that throws nothing; its world is the last part -/
theorem z_callMf {post : Int32 → va_W → Prop} {mc ms k' n' : Nat} (B : zB X own cc nL Ts rm D tys (zI1 D A (zs X))) (hl : zl X = l) (hM : zMutI l y ws rm' D tys wc (.ref b :: As) post mc ms) (hG : GoodIn Ts (wsV own index C y ws)) (hw : ws = Cond.code y bytes maxL ret :: ws') (hc0 : rm'.cells = mc ∧ rm'.slots = ms) (hd : zNm y C As.length) (hR : zRm rm rm' maxL)
    (q : Nat) (hr : wc[q]? = some (b, .inr (ci, fs))) (hC : vwCl[ci]? = some (C, T, N)) (hst : st0 = As.reverse ++ .ref b :: st) (hcat : (st.map fun v => v.category).sum ≤ 8) (hdg : decode cc pc = .ok (.invokevirtual index, 3))
    (hk : k + mc = k') (hn : n + ms = n') (hk' : k' ≤ rm.cells) (hn' : n' ≤ rm.slots) (kk : ∀ (r : Int32) (w' : va_W), post r w' → zJ X nL (zI1 D A (zs X)) Q (w1 ++ w') k' n' lv (pc + 3) (.int r :: st)) : zJ X nL (zI1 D A (zs X)) Q (w1 ++ wc) k n lv pc st0 := by
  rintro H locs ls ⟨hP, hD, hS, hA⟩ hL
  subst hl; subst hk; subst hn
  obtain ⟨-, ⟨hPc, hDc⟩, -⟩ := z_cut hP hD
  have hF := z_freeA hDc hS hA
  refine va_calli (va_runV ⟨B.1, B.2.1, B.2.2.1, B.2.2.2.1, B.2.2.2.2.1⟩ (hM H.size) (cwV As.length B.2.2.2.2.1 hG hw hc0.1 hc0.2 hd (B.2.2.2.2.2.2.2.1 ▸ hR))
    ⟨z_blind2, va_recv B.2.2.2.2.2.1 hPc hC hr, fun U hU hW => ⟨rfl, by rw [hU], by rw [hU]; exact hPc, va_K.moved hW.alike B.2.2.2.2.2.1, hDc.weaken (fun _ _ _ _ => trivial)⟩⟩ rfl rfl hL.1 hst (lv_room hcat) hdg ⟨B.2.2.2.2.2.2.2.1 ▸ hk', B.2.2.2.2.2.2.2.1 ▸ hn'⟩) hS (fun q _ h => hF q h) hF ?_
  intro r u t H1 locs1 ht hvm hpost hB hz hk1 hS1
  obtain ⟨hP1, hK1, hD1⟩ := hB
  rw [ht] at hP1
  obtain ⟨j1, j2⟩ := z_join hP hD hk1 hF hP1 hD1
  exact kk r u hpost H1 locs1 ls ⟨j1, j2, hS1, hA⟩ hL
/-- a call of a maker on the whole world -/
theorem z_callF {post : Int32 → va_W → Prop} {mc ms k' n' : Nat} (B : zB X own cc nL Ts rm D tys (zI1 D A (zs X))) (hNF : zNF (zs X)) (hl : zl X = l) (hM : zFutI l y ws rm' D tys w (.ref b :: As) post mc ms) (hG : GoodIn Ts (wsV own index C y ws)) (hw : ws = Cond.code y bytes maxL ret :: ws') (hc0 : rm'.cells = mc ∧ rm'.slots = ms) (hd : zNm y C As.length) (hR : zRm rm rm' maxL)
    (q : Nat) (hr : w[q]? = some (b, .inr (ci, fs))) (hC : vwCl[ci]? = some (C, T, N)) (hst : st0 = As.reverse ++ .ref b :: st) (hcat : (st.map fun v => v.category).sum ≤ 8) (hdg : decode cc pc = .ok (.invokevirtual index, 3))
    (hk : k + mc = k') (hn : n + ms = n') (hk' : k' ≤ rm.cells) (hn' : n' ≤ rm.slots) (kk : ∀ (r : Int32) (w' : va_W), post r w' → zJ X nL (zI1 D A (zs X)) Q w' k' n' lv (pc + 3) (.int r :: st)) : zJ X nL (zI1 D A (zs X)) Q w k n lv pc st0 := by
  rintro H locs ls ⟨hP, hD, hS, hA⟩ hL
  subst hl; subst hk; subst hn
  have hF := z_freeA hD hS hA
  refine va_calli (va_runV ⟨B.1, B.2.1, B.2.2.1, B.2.2.2.1, B.2.2.2.2.1⟩ (hM H.size) (cwV As.length B.2.2.2.2.1 hG hw hc0.1 hc0.2 hd (B.2.2.2.2.2.2.2.1 ▸ hR))
    ⟨zF_blind, va_recv B.2.2.2.2.2.1 hP hC hr, fun U hU hW => ⟨rfl, ⟨by rw [hU], by rw [hU]; exact hP, va_K.moved hW.alike B.2.2.2.2.2.1, hD.weaken (fun _ _ _ _ => trivial)⟩, hNF.to hW⟩⟩ rfl rfl hL.1 hst (lv_room hcat) hdg ⟨B.2.2.2.2.2.2.2.1 ▸ hk', B.2.2.2.2.2.2.2.1 ▸ hn'⟩) hS (fun q _ h => hF q h) hF ?_
  intro r u t H1 locs1 ht hvm hpost hB hz hk1 hS1
  obtain ⟨hP1, hK1, hD1⟩ := hB
  rw [ht] at hP1
  exact kk r u hpost H1 locs1 ls ⟨hP1, hD1.weaken (fun _ q _ h => hF q.1 h), hS1, hA⟩ hL
end ZWB
