section ZT
def zSs : List (Nat × String) := [(53, "the amount of a leg is not 0"), (64, "the draft has all its legs"), (82, "the draft is no page, or the book is full"), (95, "the page is not to be reversed, or the book is full"), (101, "1 to 100 days pass at once"), (103, "the last day is 400"), (105, "the last page is ahead of the first one"), (116, "a leg is 0 to 3"), (125, "no such leg stands on the page"), (167, "the copy is a base, or an open case holds a page of it"), (178, "a copy of the chain lies outside"), (188, "8 cases were opened"), (200, "the case is closed"), (206, "the days are 0 to 400, the first one first"), (211, "the case is closed, or 30 holds were told"), (224, "the case can't strike the page"), (274, "a page up to that day is burnt"), (279, "a page up to that day is found nowhere"), (306, "no such page"), (309, "no such account"), (314, "no such case"), (319, "no such copy"), (321, "the copy does not have such a page"), (323, "an amount is -10000 to 10000"), (325, "a text is 0 to 9999"), (327, "a day is 0 to the day of now"), (330, "16 copies were made, or a page is burnt")]
def zEx : List String := ["java/lang/IndexOutOfBoundsException", "java/lang/IllegalArgumentException", "java/lang/IllegalStateException"]
abbrev zNs : List String := ["java/lang/RuntimeException", "java/lang/Exception"]
def zDs : List String := ["java/lang/RuntimeException", "java/lang/Exception", Bundle.tN]
def zBw (cls : String) : List Cond := [.castable cls cls, .declares (Bundle.initS "java/lang/RuntimeException"), .declares (Bundle.initS "java/lang/Exception"), .declares (Bundle.initS Bundle.tN)]
def zTF (A : Nat → Prop) (U : State) (H : Heap) : Prop := vx_Zq Bundle.tN "UNASSIGNED_STACK" Bundle.steD A U H ∧ vx_Zq Bundle.tN "SUPPRESSED_SENTINEL" Bundle.listD A U H ∧ ((∀ E ∈ zEx, va_Nw (.castable E E) U) ∧ ∀ E ∈ zDs, va_Nw (.declares (Bundle.initS E)) U) ∧ ∀ q ∈ zSs, ∃ sa, vk_R RX6 q.1 q.2 sa U
theorem zTF.to {A B : Nat → Prop} {s U : State} {H H1 : Heap} (hW : s.WarmedH U.vm) (h : zTF A s H) (hq : ∀ a : Nat, a < H.size → ¬ A a → H1[a]? = H[a]?) (hAB : ∀ q, B q → A q) : zTF B U H1 :=
  ⟨((h.1.kept hq).narrow hAB).moved hW.alike, ((h.2.1.kept hq).narrow hAB).moved hW.alike, ⟨fun E hE => (h.2.2.1.1 E hE).warmC hW, fun E hE => (h.2.2.1.2 E hE).warmD hW⟩, fun q hq => (h.2.2.2 q hq).imp fun sa hs => vk_R.warm hW hs⟩
theorem zTF.calling {A : Nat → Prop} {U : State} {g : JFrame} {mk : MethodId} {a : Array Value} (h : zTF A U U.heap) : zTF A (U.calling g mk a) (U.calling g mk a).heap :=
  ⟨vx_Zq.moved (u := U) (U := U.calling g mk a) (Vm.Alike.refl U.vm) h.1, vx_Zq.moved (u := U) (U := U.calling g mk a) (Vm.Alike.refl U.vm) h.2.1, ⟨fun E hE => va_tabs (u := U) (U := U.calling g mk a) rfl rfl (h.2.2.1.1 E hE), fun E hE => va_tabs (u := U) (U := U.calling g mk a) rfl rfl (h.2.2.1.2 E hE)⟩, fun q hq => (h.2.2.2 q hq).imp fun sa hs => vk_R.same (u := U) (U := U.calling g mk a) rfl hs⟩
def zPreT (D : va_G) (tys : List (ClassId × FieldType)) (w : va_W) (sz : Nat) (U : State) : Prop := zPre D tys w sz U ∧ zTF (va_A w sz) U U.heap
theorem zT_blind {D : va_G} {tys : List (ClassId × FieldType)} {w : va_W} {As : List Value} {sz : Nat} : FrameBlind (va_Pc As (zPreT D tys w sz)) := fun a U g mk q => ⟨q.1, zPre_moved q.2.1, q.2.2.calling⟩
abbrev zXC (D : va_G) (tys : List (ClassId × FieldType)) (w : va_W) (sz : Nat) (xp : String → va_W → Prop) : String → State → State → Prop := vx_X (S := String × va_W) (fun u => xp u.1 u.2) (fun E u t => E = u.1 ∧ zEnd D tys w sz u.2 t) (va_A w sz)
def zThrI (l : Launch) (y : MethodName) (ws : List Cond) (rm : Room) (D : va_G) (tys : List (ClassId × FieldType)) (w : va_W) (As : List Value) (post : Int32 → va_W → Prop) (xp : String → va_W → Prop) (mc ms : Nat) : Prop :=
  ∀ sz, vx_Met l y ws rm (va_Pc As (zPreT D tys w sz)) (va_Qi post (zEnd D tys w sz) (va_A w sz)) (zXC D tys w sz xp) mc ms (va_A w sz)
def zThrV (l : Launch) (y : MethodName) (ws : List Cond) (rm : Room) (D : va_G) (tys : List (ClassId × FieldType)) (w : va_W) (As : List Value) (post : va_W → Prop) (xp : String → va_W → Prop) (mc ms : Nat) : Prop :=
  ∀ sz, vx_Met l y ws rm (va_Pc As (zPreT D tys w sz)) (va_Qv post (zEnd D tys w sz) (va_A w sz)) (zXC D tys w sz xp) mc ms (va_A w sz)
def zThrQ (l : Launch) (y : MethodName) (ws : List Cond) (rm : Room) (D : va_G) (tys : List (ClassId × FieldType)) (w : va_W) (As : List Value) (post : Option Nat → va_W → Prop) (xp : String → va_W → Prop) (mc ms : Nat) : Prop :=
  ∀ sz, vx_Met l y ws rm (va_Pc As (zPreT D tys w sz)) (va_Qq post (zEnd D tys w sz) (va_A w sz)) (zXC D tys w sz xp) mc ms (va_A w sz)
def zQx (X : zX) (Qc : Array Value → State → Outcome → State → Prop) (XC : String → State → State → Prop) (mc ms : Nat) (free : Addr → Prop) : State → Prop := vx_MQ (zb X) Qc XC (za X) (zs X) mc ms free
theorem zThrI_of {l : Launch} {y : MethodName} {ws ws' : List Cond} {rm : Room} {D : va_G} {tys : List (ClassId × FieldType)} {w : va_W} {As : List Value} {cc : ByteArray} {maxL : Nat} {ret : Option FieldType} {own : String} {post : Int32 → va_W → Prop} {xp : String → va_W → Prop} {mc ms : Nat} (lv : List (Nat × Value)) (hy : plainName y.cls = true) (ho : y.cls = own) (hw : ws = Cond.code y cc maxL ret :: ws') (hlv : lv_args 0 As = lv) (hn : (lg_sl As).length ≤ maxL)
    (body : ∀ (X : zX) (A : Nat → Prop), A = va_A w (zs X).heap.size → zl X = l → zB X own cc maxL ws rm D tys (zI1 D A (zs X)) → (zmeth X).sig.returnType = ret → (zmeth X).name = y.name → (∀ x ∈ (zc X).exceptionTable.toList, False) → zTF A (zs X) (zs X).heap → zJ X maxL (zI1 D A (zs X)) (zQx X (va_Qi post (zEnd D tys w (zs X).heap.size) A) (zXC D tys w (zs X).heap.size xp) mc ms A) w 0 0 lv 0 []) : zThrI l y ws rm D tys w As post xp mc ms := by
  intro sz
  refine vx_ofW (cc := cc) (maxL := maxL) (ret := ret) hy hw ?_
  intro p e s m args below meth c s₁ B hml ht hv
  obtain ⟨rfl, ⟨rfl, hP, hK, hD⟩, hT⟩ := hv
  rw [lg_entry_eq]
  have h := body (p, l, e, (headSpec ws rm).room, s, m, As.toArray, below, meth, c) _ rfl rfl ⟨B.exec, B.bytes, hml, ho ▸ findClass_of_methodNamed B.named, atoms_spec (ws := ws) B.pre, hK, fun w H locs h => h.1, rfl, B.notSynchronized⟩ B.returns (name_of_methodNamed B.named B.method).1 ht hT
  exact h s.heap [] _ ⟨hP, hD.self, va_S.rf, fun q h => Or.inr h⟩ (hlv ▸ lv_entry As hn)
theorem zThrV_of {l : Launch} {y : MethodName} {ws ws' : List Cond} {rm : Room} {D : va_G} {tys : List (ClassId × FieldType)} {w : va_W} {As : List Value} {cc : ByteArray} {maxL : Nat} {ret : Option FieldType} {own : String} {post : va_W → Prop} {xp : String → va_W → Prop} {mc ms : Nat} (lv : List (Nat × Value)) (hy : plainName y.cls = true) (ho : y.cls = own) (hw : ws = Cond.code y cc maxL ret :: ws') (hlv : lv_args 0 As = lv) (hn : (lg_sl As).length ≤ maxL)
    (body : ∀ (X : zX) (A : Nat → Prop), A = va_A w (zs X).heap.size → zl X = l → zB X own cc maxL ws rm D tys (zI1 D A (zs X)) → (zmeth X).sig.returnType = ret → (zmeth X).name = y.name → (∀ x ∈ (zc X).exceptionTable.toList, False) → zTF A (zs X) (zs X).heap → zJ X maxL (zI1 D A (zs X)) (zQx X (va_Qv post (zEnd D tys w (zs X).heap.size) A) (zXC D tys w (zs X).heap.size xp) mc ms A) w 0 0 lv 0 []) : zThrV l y ws rm D tys w As post xp mc ms := by
  intro sz
  refine vx_ofW (cc := cc) (maxL := maxL) (ret := ret) hy hw ?_
  intro p e s m args below meth c s₁ B hml ht hv
  obtain ⟨rfl, ⟨rfl, hP, hK, hD⟩, hT⟩ := hv
  rw [lg_entry_eq]
  have h := body (p, l, e, (headSpec ws rm).room, s, m, As.toArray, below, meth, c) _ rfl rfl ⟨B.exec, B.bytes, hml, ho ▸ findClass_of_methodNamed B.named, atoms_spec (ws := ws) B.pre, hK, fun w H locs h => h.1, rfl, B.notSynchronized⟩ B.returns (name_of_methodNamed B.named B.method).1 ht hT
  exact h s.heap [] _ ⟨hP, hD.self, va_S.rf, fun q h => Or.inr h⟩ (hlv ▸ lv_entry As hn)
theorem zThrQ_of {l : Launch} {y : MethodName} {ws ws' : List Cond} {rm : Room} {D : va_G} {tys : List (ClassId × FieldType)} {w : va_W} {As : List Value} {cc : ByteArray} {maxL : Nat} {ret : Option FieldType} {own : String} {post : Option Nat → va_W → Prop} {xp : String → va_W → Prop} {mc ms : Nat} (lv : List (Nat × Value)) (hy : plainName y.cls = true) (ho : y.cls = own) (hw : ws = Cond.code y cc maxL ret :: ws') (hlv : lv_args 0 As = lv) (hn : (lg_sl As).length ≤ maxL)
    (body : ∀ (X : zX) (A : Nat → Prop), A = va_A w (zs X).heap.size → zl X = l → zB X own cc maxL ws rm D tys (zI1 D A (zs X)) → (zmeth X).sig.returnType = ret → (zmeth X).name = y.name → (∀ x ∈ (zc X).exceptionTable.toList, False) → zTF A (zs X) (zs X).heap → zJ X maxL (zI1 D A (zs X)) (zQx X (va_Qq post (zEnd D tys w (zs X).heap.size) A) (zXC D tys w (zs X).heap.size xp) mc ms A) w 0 0 lv 0 []) : zThrQ l y ws rm D tys w As post xp mc ms := by
  intro sz
  refine vx_ofW (cc := cc) (maxL := maxL) (ret := ret) hy hw ?_
  intro p e s m args below meth c s₁ B hml ht hv
  obtain ⟨rfl, ⟨rfl, hP, hK, hD⟩, hT⟩ := hv
  rw [lg_entry_eq]
  have h := body (p, l, e, (headSpec ws rm).room, s, m, As.toArray, below, meth, c) _ rfl rfl ⟨B.exec, B.bytes, hml, ho ▸ findClass_of_methodNamed B.named, atoms_spec (ws := ws) B.pre, hK, fun w H locs h => h.1, rfl, B.notSynchronized⟩ B.returns (name_of_methodNamed B.named B.method).1 ht hT
  exact h s.heap [] _ ⟨hP, hD.self, va_S.rf, fun q h => Or.inr h⟩ (hlv ▸ lv_entry As hn)
end ZT
section ZU
variable {X : zX} {l : Launch} {own : String} {cc : ByteArray} {nL : Nat} {Ts : List Cond} {rm : Room} {D : va_G} {tys : List (ClassId × FieldType)} {Q : State → Prop} {w w0 : va_W} {k n mcT msT : Nat} {lv : List (Nat × Value)} {pc : Nat} {st st0 : List Value} {A : Nat → Prop}
variable {y : MethodName} {ws ws' : List Cond} {rm' : Room} {bytes : ByteArray} {maxL index : Nat} {ret : Option FieldType} {C : String} {T : u_T} {N ci b : Nat} {fs : List Value} {As : List Value} {Qc : Array Value → State → Outcome → State → Prop} {xp xp' : String → va_W → Prop}
theorem z_xr {I : zII} {XC : String → State → State → Prop} {mc ms : Nat} {free : Addr → Prop} (h : zJ X nL I (zQe X Qc mc ms free) w k n lv pc st) : zJ X nL I (zQx X Qc XC mc ms free) w k n lv pc st := fun H locs ls hI hL => vx_ret (h H locs ls hI hL)
theorem z_throwS (B : zB X RX6 cc nL Ts rm D tys (zI1 D A (zs X))) (hAe : A = va_A w0 (zs X).heap.size) (hT : zTF A (zs X) (zs X).heap) (hl : (zl X).stackTraces = false) (htab : ∀ x ∈ (zc X).exceptionTable.toList, False) {cls text : String} {ik is ic : Nat}
    (hE : cls ∈ zEx) (hs : (is, text) ∈ zSs) (hk : Cond.classLink RX6 ik cls ∈ Ts) (hi : Cond.initialized cls ∈ Ts) (hat : ∀ w ∈ (vx_atS RX6 ic cls zNs).filter goodWord, w ∈ Ts) (hng : ∀ w ∈ (vx_atS RX6 ic cls zNs).filter (fun w => !goodWord w), w ∈ zBw cls) (hgood : ∀ w ∈ Cond.classLink RX6 ik cls :: Cond.initialized cls :: vx_atS RX6 ic cls zNs, vx_ot w = true) (hfit : Bundle.fit cls = true)
    (d0 : decode cc pc = .ok (.new ik, 3)) (d3 : decode cc (pc + 3) = .ok (.dup, 1)) (d4 : decode cc (pc + 4) = .ok (.ldc is, 2)) (d6 : decode cc (pc + 6) = .ok (.invokespecial ic, 3)) (d9 : decode cc (pc + 9) = .ok (.athrow, 1))
    (hrf : 5 < rm.frames) (hrl : (st.map fun v => v.category).sum + 82 ≤ rm.locals) (hrc : k + 1 ≤ rm.cells) (hrs : n + 6 ≤ rm.slots) (hc : k + 1 ≤ mcT) (hm : n + 6 ≤ msT) (hp : xp cls w) : zJ X nL (zI1 D A (zs X)) (zQx X Qc (zXC D tys w0 (zs X).heap.size xp) mcT msT A) w k n lv pc st := by
  rintro H locs ls ⟨hP, hD, hS, hA⟩ hL
  obtain ⟨sa, hstr⟩ := hT.2.2.2 _ hs
  have hmem := B.2.2.2.2.1
  have hR := B.2.2.2.2.2.2.2.1
  refine vx_throwS (own := RX6) (cls := cls) (text := text) (names := zNs) (ik := ik) (is := is) (ic := ic) (sa := sa) (A := A) B.1 B.2.1 hl B.2.2.2.1 hfit (by decide) (hmem _ hk) (hmem _ hi) hstr (vx_hat (fun w hw => hmem w (hat w hw)) hng (vx_c (va_tabs rfl rfl (hT.2.2.1.1 cls hE)) (vx_c (va_tabs rfl rfl (hT.2.2.1.2 _ (by decide))) (vx_c (va_tabs rfl rfl (hT.2.2.1.2 _ (by decide))) (vx_c (va_tabs rfl rfl (hT.2.2.1.2 _ (by decide))) vx_n))))) hgood hT.1 hT.2.1 hS (hL.1.trans B.2.2.1.symm) d0 d3 d4 d6 d9 (fun x hx => (htab x hx).elim) (by rw [hR]; exact hrf) (by rw [hR]; exact hrl) (by rw [hR]; exact hrc) (by rw [hR]; exact hrs) B.2.2.2.2.2.2.2.2 ?_ hS.2.2 hc hm
  exact fun t hal hz hk => ⟨(cls, w), hp, ⟨rfl, hP.kept (fun i q hi => hk _ (vx_lt hP hi)), va_K.moved hal B.2.2.2.2.2.1, hAe ▸ hD⟩, ⟨Nat.le_trans hS.1 hz, fun q h1 h2 => (hk q (Nat.lt_of_lt_of_le h1 hS.1)).trans (hS.2.1 q h1 (by rw [hAe]; exact h2))⟩⟩
theorem z_throwSW (B : zB X RX6 cc nL Ts rm D tys (zI1 D A (zs X))) (hAe : A = va_A w0 (zs X).heap.size) (hT : zTF A (zs X) (zs X).heap) (hl : (zl X).stackTraces = false) (htab : ∀ x ∈ (zc X).exceptionTable.toList, False) {cls text : String} {ik is ic : Nat}
    (hE : cls ∈ zEx) (hs : (is, text) ∈ zSs) (hk : Cond.classLink RX6 ik cls ∈ Ts) (hi : Cond.initialized cls ∈ Ts) (hat : ∀ w ∈ (vx_atS RX6 ic cls zNs).filter goodWord, w ∈ Ts) (hng : ∀ w ∈ (vx_atS RX6 ic cls zNs).filter (fun w => !goodWord w), w ∈ zBw cls) (hgood : ∀ w ∈ Cond.classLink RX6 ik cls :: Cond.initialized cls :: vx_atS RX6 ic cls zNs, vx_ot w = true) (hfit : Bundle.fit cls = true)
    (d0 : decode cc pc = .ok (.new ik, 3)) (d3 : decode cc (pc + 3) = .ok (.dup, 1)) (d4 : decode cc (pc + 4) = .ok (.ldc_w is, 3)) (d6 : decode cc (pc + 7) = .ok (.invokespecial ic, 3)) (d9 : decode cc (pc + 10) = .ok (.athrow, 1))
    (hrf : 5 < rm.frames) (hrl : (st.map fun v => v.category).sum + 82 ≤ rm.locals) (hrc : k + 1 ≤ rm.cells) (hrs : n + 6 ≤ rm.slots) (hc : k + 1 ≤ mcT) (hm : n + 6 ≤ msT) (hp : xp cls w) : zJ X nL (zI1 D A (zs X)) (zQx X Qc (zXC D tys w0 (zs X).heap.size xp) mcT msT A) w k n lv pc st := by
  rintro H locs ls ⟨hP, hD, hS, hA⟩ hL
  obtain ⟨sa, hstr⟩ := hT.2.2.2 _ hs
  have hmem := B.2.2.2.2.1
  have hR := B.2.2.2.2.2.2.2.1
  refine vx_throwSW (own := RX6) (cls := cls) (text := text) (names := zNs) (ik := ik) (is := is) (ic := ic) (sa := sa) (A := A) B.1 B.2.1 hl B.2.2.2.1 hfit (by decide) (hmem _ hk) (hmem _ hi) hstr (vx_hat (fun w hw => hmem w (hat w hw)) hng (vx_c (va_tabs rfl rfl (hT.2.2.1.1 cls hE)) (vx_c (va_tabs rfl rfl (hT.2.2.1.2 _ (by decide))) (vx_c (va_tabs rfl rfl (hT.2.2.1.2 _ (by decide))) (vx_c (va_tabs rfl rfl (hT.2.2.1.2 _ (by decide))) vx_n))))) hgood hT.1 hT.2.1 hS (hL.1.trans B.2.2.1.symm) d0 d3 d4 d6 d9 (fun x hx => (htab x hx).elim) (by rw [hR]; exact hrf) (by rw [hR]; exact hrl) (by rw [hR]; exact hrc) (by rw [hR]; exact hrs) B.2.2.2.2.2.2.2.2 ?_ hS.2.2 hc hm
  exact fun t hal hz hk => ⟨(cls, w), hp, ⟨rfl, hP.kept (fun i q hi => hk _ (vx_lt hP hi)), va_K.moved hal B.2.2.2.2.2.1, hAe ▸ hD⟩, ⟨Nat.le_trans hS.1 hz, fun q h1 h2 => (hk q (Nat.lt_of_lt_of_le h1 hS.1)).trans (hS.2.1 q h1 (by rw [hAe]; exact h2))⟩⟩
theorem zx_callq {p : Program} {l : Launch} {e : Env} {R : Room} {s : State} {m : MethodId} {args : Array Value} {below : List Frame} {meth : Method} {c : Code} {H : Heap} {locs : List Loc} {cells slots : Nat} {Q : State → Prop} {mc ms : Nat} {free : Addr → Prop} {A0 A1 : Nat → Prop} {H0 : Heap} {a : Array Value} {pc : Nat} {ls : Array Slot} {st0 rest : List Value} {S SX : Type} {post : Option Nat → S → Prop} {px : SX → Prop} {B : S → State → Prop} {BX : String → SX → State → Prop} {AX : Nat → Prop} (hr : vx_Run p l e R s m args below meth c H locs cells slots mc ms (F0 m pc ls st0) rest (va_Qq post B A1 a) (vx_X px BX AX) free) (hS : va_S A0 H0 H locs) (hA : ∀ q, q < H.size → A1 q → A0 q) (hf : ∀ q, free q → A0 q) (hAX : ∀ q, q < H.size → AX q → A0 q)
    (kx : ∀ (E : String) (ce : Cell) (q9 : Addr) (u : SX) (t : State) (H1 : Heap) (locs1 : List Loc), t.heap = H1 → s.vm.Alike t.vm → px u → BX E u t → H.size ≤ H1.size → (∀ q : Nat, q < H.size → ¬ AX q → H1[q]? = H[q]?) → va_S A0 H0 H1 locs1 → H1[q9]? = some ce → ce.vm = .none → s.vm.findClass E = some ce.cls → vx_W p l e R s m args below meth c H1 locs1 (cells + mc) (slots + ms) Q (F0 m pc ls rest) q9)
    (kk : ∀ (r : Option Nat) (u : S) (t : State) (H1 : Heap) (locs1 : List Loc), t.heap = H1 → s.vm.Alike t.vm → post r u → B u t → H.size ≤ H1.size → (∀ q : Nat, q < H.size → ¬ A1 q → H1[q]? = H[q]?) → va_S A0 H0 H1 locs1 → W p l e R s m args below meth c H1 locs1 (cells + mc) (slots + ms) Q (F0 m (pc + 3) ls (va_rf r :: rest))) : W p l e R s m args below meth c H locs cells slots Q (F0 m pc ls st0) := by
  intro T hT X
  rcases hr T hT X with ⟨v, st₀, t, T', L, h0, X', hL, e1, e2, ⟨⟨r, u, hv, hp, hb⟩, hF⟩, st⟩ | ⟨q, st₀, t, T', L, E, ce, h0, X', hL, e1, e2, ⟨u, hp, hb, hF⟩, hce, hcv, hcl, st⟩
  · cases hv
    obtain ⟨k1, k2, k3⟩ := vx_keep h0 e1 hS hA hf hL hF
    obtain ⟨t2, a1, b1⟩ := kk r u t T'.heap (locs ++ L) e1.symm (by rw [← e2]; exact X'.warmed.alike) hp hb k1 k2 k3 T' rfl X'
    exact ⟨t2, st t2 a1, b1⟩
  · obtain ⟨k1, k2, k3⟩ := vx_keep h0 e1 hS hAX hf hL hF
    obtain ⟨t2, a1, b1⟩ := kx E ce q u t T'.heap (locs ++ L) e1.symm (by rw [← e2]; exact X'.warmed.alike) hp hb k1 k2 k3 (by rw [e1]; exact hce) hcv hcl T' rfl X'
    exact ⟨t2, st.trans a1, b1⟩
theorem z_callTV {post : va_W → Prop} {mc ms k' n' : Nat} (B : zB X own cc nL Ts rm D tys (zI1 D A (zs X))) (hAe : A = va_A w0 (zs X).heap.size) (hT : zTF A (zs X) (zs X).heap) (htab : ∀ x ∈ (zc X).exceptionTable.toList, False) (hl : zl X = l) (hM : zThrV l y ws rm' D tys w (.ref b :: As) post xp' mc ms) (hG : GoodIn Ts (wsV own index C y ws)) (hw : ws = Cond.code y bytes maxL ret :: ws') (hc0 : rm'.cells = mc ∧ rm'.slots = ms) (hd : zNm y C As.length) (hR : zRm rm rm' maxL)
    (q : Nat) (hr : w[q]? = some (b, .inr (ci, fs))) (hC : vwCl[ci]? = some (C, T, N)) (hst : st0 = As.reverse ++ .ref b :: st) (hcat : (st.map fun v => v.category).sum ≤ 8) (hdg : decode cc pc = .ok (.invokevirtual index, 3))
    (hk : k + mc = k') (hn : n + ms = n') (hk' : k' ≤ rm.cells) (hn' : n' ≤ rm.slots) (hkT : k' ≤ mcT) (hnT : n' ≤ msT) (hx : ∀ E w', xp' E w' → xp E w') (kk : ∀ (w' : va_W), post w' → zJ X nL (zI1 D A (zs X)) (zQx X Qc (zXC D tys w0 (zs X).heap.size xp) mcT msT A) w' k' n' lv (pc + 3) st) : zJ X nL (zI1 D A (zs X)) (zQx X Qc (zXC D tys w0 (zs X).heap.size xp) mcT msT A) w k n lv pc st0 := by
  rintro H locs ls ⟨hP, hD, hS, hA⟩ hL
  subst hl; subst hk; subst hn
  have hF := z_freeA hD hS hA
  refine vx_callv (vx_runV ⟨B.1, B.2.1, B.2.2.1, B.2.2.2.1, B.2.2.2.2.1⟩ (hM H.size) (cwV As.length B.2.2.2.2.1 hG hw hc0.1 hc0.2 hd (B.2.2.2.2.2.2.2.1 ▸ hR))
    ⟨zT_blind, va_recv B.2.2.2.2.2.1 hP hC hr, fun U hU hW => ⟨rfl, ⟨by rw [hU], by rw [hU]; exact hP, va_K.moved hW.alike B.2.2.2.2.2.1, hD.weaken (fun _ _ _ _ => trivial)⟩, by rw [hU]; exact hT.to hW hS.2.1 hF⟩⟩ rfl rfl hL.1 hst (lv_room hcat) hdg ⟨B.2.2.2.2.2.2.2.1 ▸ hk', B.2.2.2.2.2.2.2.1 ▸ hn'⟩) hS (fun q _ h => hF q h) hF (fun q _ h => hF q h) (fun E ce q9 u t H1 locs1 ht hvm hpx hB hz hk1 hS1 hce hcv hcl => vx_out (fun x hx => (htab x hx).elim) B.2.2.2.2.2.2.2.2 hce hcv hcl (fun t' ht' hal' => by
      obtain ⟨rfl, hP1, hK1, hD1⟩ := hB
      rw [ht] at hP1
      exact ⟨u, hx _ _ hpx, ⟨rfl, by rw [ht']; exact hP1, va_K.moved hal' B.2.2.2.2.2.1, hAe ▸ hD1.weaken (fun _ q _ h => hF q.1 h)⟩, hAe ▸ hS1.F ht'⟩) hS1.2.2 hkT hnT) ?_
  intro u t H1 locs1 ht hvm hpost hB hz hk1 hS1
  obtain ⟨hP1, hK1, hD1⟩ := hB
  rw [ht] at hP1
  exact kk u hpost H1 locs1 ls ⟨hP1, hD1.weaken (fun _ q _ h => hF q.1 h), hS1, hA⟩ hL
theorem z_callTSV {post : va_W → Prop} {mc ms k' n' : Nat} (B : zB X own cc nL Ts rm D tys (zI1 D A (zs X))) (hAe : A = va_A w0 (zs X).heap.size) (hT : zTF A (zs X) (zs X).heap) (htab : ∀ x ∈ (zc X).exceptionTable.toList, False) (hl : zl X = l) (hM : zThrV l y ws rm' D tys w As post xp' mc ms) (hG : GoodIn Ts (va_wsS own index y ws)) (hw : ws = Cond.code y bytes maxL ret :: ws') (hc0 : rm'.cells = mc ∧ rm'.slots = ms) (hd : zNm y own As.length) (hR : zRm rm rm' maxL)
    (hst : st0 = As.reverse ++ st) (hcat : (st.map fun v => v.category).sum ≤ 8) (hdg : decode cc pc = .ok (.invokestatic index, 3))
    (hk : k + mc = k') (hn : n + ms = n') (hk' : k' ≤ rm.cells) (hn' : n' ≤ rm.slots) (hkT : k' ≤ mcT) (hnT : n' ≤ msT) (hx : ∀ E w', xp' E w' → xp E w') (kk : ∀ (w' : va_W), post w' → zJ X nL (zI1 D A (zs X)) (zQx X Qc (zXC D tys w0 (zs X).heap.size xp) mcT msT A) w' k' n' lv (pc + 3) st) : zJ X nL (zI1 D A (zs X)) (zQx X Qc (zXC D tys w0 (zs X).heap.size xp) mcT msT A) w k n lv pc st0 := by
  rintro H locs ls ⟨hP, hD, hS, hA⟩ hL
  subst hl; subst hk; subst hn
  have hF := z_freeA hD hS hA
  refine vx_callv (vx_runS ⟨B.1, B.2.1, B.2.2.1, B.2.2.2.1, B.2.2.2.2.1⟩ (hM H.size) (va_cwS As.length B.2.2.2.2.1 hG hw hc0.1 hc0.2 hd.2 (B.2.2.2.2.2.2.2.1 ▸ hR))
    ⟨zT_blind, fun U hU hW => ⟨rfl, ⟨by rw [hU], by rw [hU]; exact hP, va_K.moved hW.alike B.2.2.2.2.2.1, hD.weaken (fun _ _ _ _ => trivial)⟩, by rw [hU]; exact hT.to hW hS.2.1 hF⟩⟩ rfl rfl hL.1 hst (lv_room hcat) hdg ⟨B.2.2.2.2.2.2.2.1 ▸ hk', B.2.2.2.2.2.2.2.1 ▸ hn'⟩) hS (fun q _ h => hF q h) hF (fun q _ h => hF q h) (fun E ce q9 u t H1 locs1 ht hvm hpx hB hz hk1 hS1 hce hcv hcl => vx_out (fun x hx => (htab x hx).elim) B.2.2.2.2.2.2.2.2 hce hcv hcl (fun t' ht' hal' => by
      obtain ⟨rfl, hP1, hK1, hD1⟩ := hB
      rw [ht] at hP1
      exact ⟨u, hx _ _ hpx, ⟨rfl, by rw [ht']; exact hP1, va_K.moved hal' B.2.2.2.2.2.1, hAe ▸ hD1.weaken (fun _ q _ h => hF q.1 h)⟩, hAe ▸ hS1.F ht'⟩) hS1.2.2 hkT hnT) ?_
  intro u t H1 locs1 ht hvm hpost hB hz hk1 hS1
  obtain ⟨hP1, hK1, hD1⟩ := hB
  rw [ht] at hP1
  exact kk u hpost H1 locs1 ls ⟨hP1, hD1.weaken (fun _ q _ h => hF q.1 h), hS1, hA⟩ hL
theorem z_callTQ {post : Option Nat → va_W → Prop} {mc ms k' n' : Nat} (B : zB X own cc nL Ts rm D tys (zI1 D A (zs X))) (hAe : A = va_A w0 (zs X).heap.size) (hT : zTF A (zs X) (zs X).heap) (htab : ∀ x ∈ (zc X).exceptionTable.toList, False) (hl : zl X = l) (hM : zThrQ l y ws rm' D tys w (.ref b :: As) post xp' mc ms) (hG : GoodIn Ts (wsV own index C y ws)) (hw : ws = Cond.code y bytes maxL ret :: ws') (hc0 : rm'.cells = mc ∧ rm'.slots = ms) (hd : zNm y C As.length) (hR : zRm rm rm' maxL)
    (q : Nat) (hr : w[q]? = some (b, .inr (ci, fs))) (hC : vwCl[ci]? = some (C, T, N)) (hst : st0 = As.reverse ++ .ref b :: st) (hcat : (st.map fun v => v.category).sum ≤ 8) (hdg : decode cc pc = .ok (.invokevirtual index, 3))
    (hk : k + mc = k') (hn : n + ms = n') (hk' : k' ≤ rm.cells) (hn' : n' ≤ rm.slots) (hkT : k' ≤ mcT) (hnT : n' ≤ msT) (hx : ∀ E w', xp' E w' → xp E w') (kk : ∀ (r : Option Nat) (w' : va_W), post r w' → zJ X nL (zI1 D A (zs X)) (zQx X Qc (zXC D tys w0 (zs X).heap.size xp) mcT msT A) w' k' n' lv (pc + 3) (va_rf r :: st)) : zJ X nL (zI1 D A (zs X)) (zQx X Qc (zXC D tys w0 (zs X).heap.size xp) mcT msT A) w k n lv pc st0 := by
  rintro H locs ls ⟨hP, hD, hS, hA⟩ hL
  subst hl; subst hk; subst hn
  have hF := z_freeA hD hS hA
  refine zx_callq (vx_runV ⟨B.1, B.2.1, B.2.2.1, B.2.2.2.1, B.2.2.2.2.1⟩ (hM H.size) (cwV As.length B.2.2.2.2.1 hG hw hc0.1 hc0.2 hd (B.2.2.2.2.2.2.2.1 ▸ hR))
    ⟨zT_blind, va_recv B.2.2.2.2.2.1 hP hC hr, fun U hU hW => ⟨rfl, ⟨by rw [hU], by rw [hU]; exact hP, va_K.moved hW.alike B.2.2.2.2.2.1, hD.weaken (fun _ _ _ _ => trivial)⟩, by rw [hU]; exact hT.to hW hS.2.1 hF⟩⟩ rfl rfl hL.1 hst (lv_room hcat) hdg ⟨B.2.2.2.2.2.2.2.1 ▸ hk', B.2.2.2.2.2.2.2.1 ▸ hn'⟩) hS (fun q _ h => hF q h) hF (fun q _ h => hF q h) (fun E ce q9 u t H1 locs1 ht hvm hpx hB hz hk1 hS1 hce hcv hcl => vx_out (fun x hx => (htab x hx).elim) B.2.2.2.2.2.2.2.2 hce hcv hcl (fun t' ht' hal' => by
      obtain ⟨rfl, hP1, hK1, hD1⟩ := hB
      rw [ht] at hP1
      exact ⟨u, hx _ _ hpx, ⟨rfl, by rw [ht']; exact hP1, va_K.moved hal' B.2.2.2.2.2.1, hAe ▸ hD1.weaken (fun _ q _ h => hF q.1 h)⟩, hAe ▸ hS1.F ht'⟩) hS1.2.2 hkT hnT) ?_
  intro r u t H1 locs1 ht hvm hpost hB hz hk1 hS1
  obtain ⟨hP1, hK1, hD1⟩ := hB
  rw [ht] at hP1
  exact kk r u hpost H1 locs1 ls ⟨hP1, hD1.weaken (fun _ q _ h => hF q.1 h), hS1, hA⟩ hL
theorem z_callTSQ {post : Option Nat → va_W → Prop} {mc ms k' n' : Nat} (B : zB X own cc nL Ts rm D tys (zI1 D A (zs X))) (hAe : A = va_A w0 (zs X).heap.size) (hT : zTF A (zs X) (zs X).heap) (htab : ∀ x ∈ (zc X).exceptionTable.toList, False) (hl : zl X = l) (hM : zThrQ l y ws rm' D tys w As post xp' mc ms) (hG : GoodIn Ts (va_wsS own index y ws)) (hw : ws = Cond.code y bytes maxL ret :: ws') (hc0 : rm'.cells = mc ∧ rm'.slots = ms) (hd : zNm y own As.length) (hR : zRm rm rm' maxL)
    (hst : st0 = As.reverse ++ st) (hcat : (st.map fun v => v.category).sum ≤ 8) (hdg : decode cc pc = .ok (.invokestatic index, 3))
    (hk : k + mc = k') (hn : n + ms = n') (hk' : k' ≤ rm.cells) (hn' : n' ≤ rm.slots) (hkT : k' ≤ mcT) (hnT : n' ≤ msT) (hx : ∀ E w', xp' E w' → xp E w') (kk : ∀ (r : Option Nat) (w' : va_W), post r w' → zJ X nL (zI1 D A (zs X)) (zQx X Qc (zXC D tys w0 (zs X).heap.size xp) mcT msT A) w' k' n' lv (pc + 3) (va_rf r :: st)) : zJ X nL (zI1 D A (zs X)) (zQx X Qc (zXC D tys w0 (zs X).heap.size xp) mcT msT A) w k n lv pc st0 := by
  rintro H locs ls ⟨hP, hD, hS, hA⟩ hL
  subst hl; subst hk; subst hn
  have hF := z_freeA hD hS hA
  refine zx_callq (vx_runS ⟨B.1, B.2.1, B.2.2.1, B.2.2.2.1, B.2.2.2.2.1⟩ (hM H.size) (va_cwS As.length B.2.2.2.2.1 hG hw hc0.1 hc0.2 hd.2 (B.2.2.2.2.2.2.2.1 ▸ hR))
    ⟨zT_blind, fun U hU hW => ⟨rfl, ⟨by rw [hU], by rw [hU]; exact hP, va_K.moved hW.alike B.2.2.2.2.2.1, hD.weaken (fun _ _ _ _ => trivial)⟩, by rw [hU]; exact hT.to hW hS.2.1 hF⟩⟩ rfl rfl hL.1 hst (lv_room hcat) hdg ⟨B.2.2.2.2.2.2.2.1 ▸ hk', B.2.2.2.2.2.2.2.1 ▸ hn'⟩) hS (fun q _ h => hF q h) hF (fun q _ h => hF q h) (fun E ce q9 u t H1 locs1 ht hvm hpx hB hz hk1 hS1 hce hcv hcl => vx_out (fun x hx => (htab x hx).elim) B.2.2.2.2.2.2.2.2 hce hcv hcl (fun t' ht' hal' => by
      obtain ⟨rfl, hP1, hK1, hD1⟩ := hB
      rw [ht] at hP1
      exact ⟨u, hx _ _ hpx, ⟨rfl, by rw [ht']; exact hP1, va_K.moved hal' B.2.2.2.2.2.1, hAe ▸ hD1.weaken (fun _ q _ h => hF q.1 h)⟩, hAe ▸ hS1.F ht'⟩) hS1.2.2 hkT hnT) ?_
  intro r u t H1 locs1 ht hvm hpost hB hz hk1 hS1
  obtain ⟨hP1, hK1, hD1⟩ := hB
  rw [ht] at hP1
  exact kk r u hpost H1 locs1 ls ⟨hP1, hD1.weaken (fun _ q _ h => hF q.1 h), hS1, hA⟩ hL
theorem z_callTI {post : Int32 → va_W → Prop} {mc ms k' n' : Nat} (B : zB X own cc nL Ts rm D tys (zI1 D A (zs X))) (hAe : A = va_A w0 (zs X).heap.size) (hT : zTF A (zs X) (zs X).heap) (htab : ∀ x ∈ (zc X).exceptionTable.toList, False) (hl : zl X = l) (hM : zThrI l y ws rm' D tys w (.ref b :: As) post xp' mc ms) (hG : GoodIn Ts (wsV own index C y ws)) (hw : ws = Cond.code y bytes maxL ret :: ws') (hc0 : rm'.cells = mc ∧ rm'.slots = ms) (hd : zNm y C As.length) (hR : zRm rm rm' maxL)
    (q : Nat) (hr : w[q]? = some (b, .inr (ci, fs))) (hC : vwCl[ci]? = some (C, T, N)) (hst : st0 = As.reverse ++ .ref b :: st) (hcat : (st.map fun v => v.category).sum ≤ 8) (hdg : decode cc pc = .ok (.invokevirtual index, 3))
    (hk : k + mc = k') (hn : n + ms = n') (hk' : k' ≤ rm.cells) (hn' : n' ≤ rm.slots) (hkT : k' ≤ mcT) (hnT : n' ≤ msT) (hx : ∀ E w', xp' E w' → xp E w') (kk : ∀ (r : Int32) (w' : va_W), post r w' → zJ X nL (zI1 D A (zs X)) (zQx X Qc (zXC D tys w0 (zs X).heap.size xp) mcT msT A) w' k' n' lv (pc + 3) (.int r :: st)) : zJ X nL (zI1 D A (zs X)) (zQx X Qc (zXC D tys w0 (zs X).heap.size xp) mcT msT A) w k n lv pc st0 := by
  rintro H locs ls ⟨hP, hD, hS, hA⟩ hL
  subst hl; subst hk; subst hn
  have hF := z_freeA hD hS hA
  refine vx_calli (vx_runV ⟨B.1, B.2.1, B.2.2.1, B.2.2.2.1, B.2.2.2.2.1⟩ (hM H.size) (cwV As.length B.2.2.2.2.1 hG hw hc0.1 hc0.2 hd (B.2.2.2.2.2.2.2.1 ▸ hR))
    ⟨zT_blind, va_recv B.2.2.2.2.2.1 hP hC hr, fun U hU hW => ⟨rfl, ⟨by rw [hU], by rw [hU]; exact hP, va_K.moved hW.alike B.2.2.2.2.2.1, hD.weaken (fun _ _ _ _ => trivial)⟩, by rw [hU]; exact hT.to hW hS.2.1 hF⟩⟩ rfl rfl hL.1 hst (lv_room hcat) hdg ⟨B.2.2.2.2.2.2.2.1 ▸ hk', B.2.2.2.2.2.2.2.1 ▸ hn'⟩) hS (fun q _ h => hF q h) hF (fun q _ h => hF q h) (fun E ce q9 u t H1 locs1 ht hvm hpx hB hz hk1 hS1 hce hcv hcl => vx_out (fun x hx => (htab x hx).elim) B.2.2.2.2.2.2.2.2 hce hcv hcl (fun t' ht' hal' => by
      obtain ⟨rfl, hP1, hK1, hD1⟩ := hB
      rw [ht] at hP1
      exact ⟨u, hx _ _ hpx, ⟨rfl, by rw [ht']; exact hP1, va_K.moved hal' B.2.2.2.2.2.1, hAe ▸ hD1.weaken (fun _ q _ h => hF q.1 h)⟩, hAe ▸ hS1.F ht'⟩) hS1.2.2 hkT hnT) ?_
  intro r u t H1 locs1 ht hvm hpost hB hz hk1 hS1
  obtain ⟨hP1, hK1, hD1⟩ := hB
  rw [ht] at hP1
  exact kk r u hpost H1 locs1 ls ⟨hP1, hD1.weaken (fun _ q _ h => hF q.1 h), hS1, hA⟩ hL
theorem z_callTSI {post : Int32 → va_W → Prop} {mc ms k' n' : Nat} (B : zB X own cc nL Ts rm D tys (zI1 D A (zs X))) (hAe : A = va_A w0 (zs X).heap.size) (hT : zTF A (zs X) (zs X).heap) (htab : ∀ x ∈ (zc X).exceptionTable.toList, False) (hl : zl X = l) (hM : zThrI l y ws rm' D tys w As post xp' mc ms) (hG : GoodIn Ts (va_wsS own index y ws)) (hw : ws = Cond.code y bytes maxL ret :: ws') (hc0 : rm'.cells = mc ∧ rm'.slots = ms) (hd : zNm y own As.length) (hR : zRm rm rm' maxL)
    (hst : st0 = As.reverse ++ st) (hcat : (st.map fun v => v.category).sum ≤ 8) (hdg : decode cc pc = .ok (.invokestatic index, 3))
    (hk : k + mc = k') (hn : n + ms = n') (hk' : k' ≤ rm.cells) (hn' : n' ≤ rm.slots) (hkT : k' ≤ mcT) (hnT : n' ≤ msT) (hx : ∀ E w', xp' E w' → xp E w') (kk : ∀ (r : Int32) (w' : va_W), post r w' → zJ X nL (zI1 D A (zs X)) (zQx X Qc (zXC D tys w0 (zs X).heap.size xp) mcT msT A) w' k' n' lv (pc + 3) (.int r :: st)) : zJ X nL (zI1 D A (zs X)) (zQx X Qc (zXC D tys w0 (zs X).heap.size xp) mcT msT A) w k n lv pc st0 := by
  rintro H locs ls ⟨hP, hD, hS, hA⟩ hL
  subst hl; subst hk; subst hn
  have hF := z_freeA hD hS hA
  refine vx_calli (vx_runS ⟨B.1, B.2.1, B.2.2.1, B.2.2.2.1, B.2.2.2.2.1⟩ (hM H.size) (va_cwS As.length B.2.2.2.2.1 hG hw hc0.1 hc0.2 hd.2 (B.2.2.2.2.2.2.2.1 ▸ hR))
    ⟨zT_blind, fun U hU hW => ⟨rfl, ⟨by rw [hU], by rw [hU]; exact hP, va_K.moved hW.alike B.2.2.2.2.2.1, hD.weaken (fun _ _ _ _ => trivial)⟩, by rw [hU]; exact hT.to hW hS.2.1 hF⟩⟩ rfl rfl hL.1 hst (lv_room hcat) hdg ⟨B.2.2.2.2.2.2.2.1 ▸ hk', B.2.2.2.2.2.2.2.1 ▸ hn'⟩) hS (fun q _ h => hF q h) hF (fun q _ h => hF q h) (fun E ce q9 u t H1 locs1 ht hvm hpx hB hz hk1 hS1 hce hcv hcl => vx_out (fun x hx => (htab x hx).elim) B.2.2.2.2.2.2.2.2 hce hcv hcl (fun t' ht' hal' => by
      obtain ⟨rfl, hP1, hK1, hD1⟩ := hB
      rw [ht] at hP1
      exact ⟨u, hx _ _ hpx, ⟨rfl, by rw [ht']; exact hP1, va_K.moved hal' B.2.2.2.2.2.1, hAe ▸ hD1.weaken (fun _ q _ h => hF q.1 h)⟩, hAe ▸ hS1.F ht'⟩) hS1.2.2 hkT hnT) ?_
  intro r u t H1 locs1 ht hvm hpost hB hz hk1 hS1
  obtain ⟨hP1, hK1, hD1⟩ := hB
  rw [ht] at hP1
  exact kk r u hpost H1 locs1 ls ⟨hP1, hD1.weaken (fun _ q _ h => hF q.1 h), hS1, hA⟩ hL
theorem z_qret {post : Option Nat → va_W → Prop} {r : Option Nat} {v : Value} {nm : String} (B : zB X own cc nL Ts rm D tys (zI1 D A (zs X))) (hAe : A = va_A w0 (zs X).heap.size) (hr : (zmeth X).sig.returnType = some (.object nm)) (hdg : decode cc pc = .ok (.areturn, 1)) (hv : v = va_rf r) (h1 : k ≤ mcT) (h2 : n ≤ msT) (hp : post r w) : zJ X nL (zI1 D A (zs X)) (zQe X (va_Qq post (zEnd D tys w0 (zs X).heap.size) A) mcT msT A) w k n lv pc [v] := by
  rintro H locs ls ⟨hP, hD, hS, hA⟩ hL
  subst hv
  refine W.widen h1 h2 ?_
  exact W.aret B.1 B.2.1 hr (Or.inl ⟨nm, rfl⟩) (by cases r with | none => exact Or.inl rfl | some a => exact Or.inr ⟨a, rfl⟩) (fun t ht hW => ⟨⟨r, w, rfl, hp, by rw [ht]; exact hP, va_K.moved hW.alike B.2.2.2.2.2.1, hAe ▸ hD⟩, hS.F ht⟩) hS.2.2 hdg B.2.2.2.2.2.2.2.2
end ZU
theorem rng_lt0 {x : Int32} {n : Nat} (hn : n < 2 ^ 31) (h : x < 0) : ¬ rng x n := fun ⟨j, hj, e⟩ => absurd (e ▸ h) (nI_pos (by omega))
theorem rng_ge {x : Int32} {n : Nat} (hn : n < 2 ^ 31) (h : ¬ x < nI n) : ¬ rng x n := fun ⟨j, hj, e⟩ => absurd ((nI_leI hn (by omega)).mp (e ▸ Int32.not_lt.mp h)) (by omega)
theorem CI_28u {C : zMS} {j : Nat} (h : CI C) : CI (up2 C 28 j (nI 0)) := by
  unfold CI cP cD cOp cM cK cH cT cL cHc cF cE at h ⊢
  obtain ⟨h1, h2, h3, h4, h5, h6, h7, h8, h9, h10, h11, h12, h13, h14, h15, h16, h17, h18, h19⟩ := h
  have e41 : ∀ k, up2 C 28 j (nI 0) (41 + 8 * k) = C (41 + 8 * k) := fun k => up2_k (by omega)
  have e42 : ∀ k, up2 C 28 j (nI 0) (42 + 8 * k) = C (42 + 8 * k) := fun k => up2_k (by omega)
  have e43 : ∀ k, up2 C 28 j (nI 0) (43 + 8 * k) = C (43 + 8 * k) := fun k => up2_k (by omega)
  have e44 : ∀ k, up2 C 28 j (nI 0) (44 + 8 * k) = C (44 + 8 * k) := fun k => up2_k (by omega)
  rw [up2_k (show 19 ≠ 28 by decide), up2_k (show 3 ≠ 28 by decide), up2_k (show 6 ≠ 28 by decide), up2_k (show 20 ≠ 28 by decide), up2_k (show 22 ≠ 28 by decide), up2_k (show 27 ≠ 28 by decide), up2_k (show 0 ≠ 28 by decide), up2_k (show 10 ≠ 28 by decide), up2_k (show 23 ≠ 28 by decide), up2_k (show 13 ≠ 28 by decide), up2_k (show 14 ≠ 28 by decide), up2_k (show 15 ≠ 28 by decide), up2_k (show 17 ≠ 28 by decide), up2_k (show 21 ≠ 28 by decide)]
  simp only [e41, e42, e43, e44]
  exact ⟨h1, h2, h3, h4, h5, h6, h7, h8, h9, h10, h11, h12, h13, h14, h15, h16, h17, h18, fun i hi => h19 i (by by_cases q : i = j; exact absurd (q ▸ hi) (by rw [up2_s]; decide); rw [up2_i q] at hi; exact hi)⟩
theorem CI_27u {C : zMS} {n : Nat} (h : CI C) (hn : n ≤ 30) : CI (up2 C 27 0 (nI n)) := by
  unfold CI cP cD cOp cM cK cH cT cL cHc cF cE at h ⊢
  obtain ⟨h1, h2, h3, h4, h5, h6, h7, h8, h9, h10, h11, h12, h13, h14, h15, h16, h17, h18, h19⟩ := h
  have e41 : ∀ k, up2 C 27 0 (nI n) (41 + 8 * k) = C (41 + 8 * k) := fun k => up2_k (by omega)
  have e42 : ∀ k, up2 C 27 0 (nI n) (42 + 8 * k) = C (42 + 8 * k) := fun k => up2_k (by omega)
  have e43 : ∀ k, up2 C 27 0 (nI n) (43 + 8 * k) = C (43 + 8 * k) := fun k => up2_k (by omega)
  have e44 : ∀ k, up2 C 27 0 (nI n) (44 + 8 * k) = C (44 + 8 * k) := fun k => up2_k (by omega)
  rw [up2_k (show 19 ≠ 27 by decide), up2_k (show 3 ≠ 27 by decide), up2_k (show 6 ≠ 27 by decide), up2_k (show 20 ≠ 27 by decide), up2_k (show 22 ≠ 27 by decide), up2_k (show 0 ≠ 27 by decide), up2_k (show 10 ≠ 27 by decide), up2_k (show 23 ≠ 27 by decide), up2_k (show 13 ≠ 27 by decide), up2_k (show 14 ≠ 27 by decide), up2_k (show 15 ≠ 27 by decide), up2_k (show 17 ≠ 27 by decide), up2_k (show 21 ≠ 27 by decide), up2_k (show 28 ≠ 27 by decide)]
  simp only [e41, e42, e43, e44]
  exact ⟨h1, h2, h3, h4, h5, by rw [up2_s, nN_nI (by omega)]; exact ⟨rfl, hn⟩, h7, h8, h9, h10, h11, h12, h13, h14, h15, h16, h17, h18, h19⟩
theorem CI_23u {C : zMS} {i n : Nat} (h : CI C) (hn : n ≤ 7) : CI (up2 C 23 i (nI n)) := by
  unfold CI cP cD cOp cM cK cH cT cL cHc cF cE at h ⊢
  obtain ⟨h1, h2, h3, h4, h5, h6, h7, h8, h9, h10, h11, h12, h13, h14, h15, h16, h17, h18, h19⟩ := h
  have e41 : ∀ k, up2 C 23 i (nI n) (41 + 8 * k) = C (41 + 8 * k) := fun k => up2_k (by omega)
  have e42 : ∀ k, up2 C 23 i (nI n) (42 + 8 * k) = C (42 + 8 * k) := fun k => up2_k (by omega)
  have e43 : ∀ k, up2 C 23 i (nI n) (43 + 8 * k) = C (43 + 8 * k) := fun k => up2_k (by omega)
  have e44 : ∀ k, up2 C 23 i (nI n) (44 + 8 * k) = C (44 + 8 * k) := fun k => up2_k (by omega)
  rw [up2_k (show 19 ≠ 23 by decide), up2_k (show 3 ≠ 23 by decide), up2_k (show 6 ≠ 23 by decide), up2_k (show 20 ≠ 23 by decide), up2_k (show 22 ≠ 23 by decide), up2_k (show 27 ≠ 23 by decide), up2_k (show 0 ≠ 23 by decide), up2_k (show 10 ≠ 23 by decide), up2_k (show 13 ≠ 23 by decide), up2_k (show 14 ≠ 23 by decide), up2_k (show 15 ≠ 23 by decide), up2_k (show 17 ≠ 23 by decide), up2_k (show 21 ≠ 23 by decide), up2_k (show 28 ≠ 23 by decide)]
  simp only [e41, e42, e43, e44]
  exact ⟨h1, h2, h3, h4, h5, h6, h7, h8, fun p => by by_cases q : p = i; rw [q, up2_s, nN_nI (by omega)]; exact ⟨rfl, hn⟩; rw [up2_i q]; exact h9 p, h10, h11, h12, h13, h14, h15, h16, h17, h18, h19⟩
theorem cM_cg {C C1 : zMS} {m : Nat} (h : C1 20 = C 20) (hm : 4 * cM C ≤ m) : 4 * cM C1 ≤ m := by
  unfold cM at *
  rw [h]; exact hm
def stC (C : zMS) (j : Nat) : zMS := blC (up2 C 14 j (nI 1)) 17 18 j
def cIn (C : zMS) (k : Nat) (x : Int32) : Prop := ∃ j, x = nI j ∧ cF C k ≤ j ∧ j < cE C k
theorem cIn_y {C : zMS} {k : Nat} {x : Int32} (hI : CI C) (h1 : ¬ x < nI (cF C k)) (h2 : x < nI (cE C k)) : cIn C k x := by
  have b1 := CI_b41 hI k
  have b2 := CI_b42 hI k
  have h0 : ¬ x < 0 := fun h => h1 (Int32.lt_of_lt_of_le h ((nI_leI (a := 0) (b := cF C k) (by decide) (by omega)).mpr (Nat.zero_le _)))
  obtain ⟨j, hj, rfl⟩ := nI_of h0
  refine ⟨j, rfl, (nI_leI (by omega) hj).mp (Int32.not_lt.mp h1), Nat.lt_of_not_le (fun h => absurd ((nI_leI (by omega) hj).mpr h) (Int32.not_le.mpr h2))⟩
theorem cIn_lt {C : zMS} {k : Nat} {x : Int32} (hI : CI C) (h : x < nI (cF C k)) : ¬ cIn C k x := by
  have b1 := CI_b41 hI k
  have b2 := CI_b42 hI k
  rintro ⟨j, rfl, h1, h2⟩
  exact absurd ((nI_leI (by omega) (by omega)).mpr h1) (Int32.not_le.mpr h)
theorem cIn_ge {C : zMS} {k : Nat} {x : Int32} (hI : CI C) (h : ¬ x < nI (cE C k)) : ¬ cIn C k x := by
  have b2 := CI_b42 hI k
  rintro ⟨j, rfl, h1, h2⟩
  exact absurd ((nI_leI (by omega) (by omega)).mp (Int32.not_lt.mp h)) (by omega)
theorem zngB : ∀ w ∈ (vx_atS RX6 308 "java/lang/IndexOutOfBoundsException" zNs).filter (fun w => !goodWord w), w ∈ zBw "java/lang/IndexOutOfBoundsException" := by decide +kernel
theorem zgdB : ∀ w ∈ Cond.classLink RX6 304 "java/lang/IndexOutOfBoundsException" :: Cond.initialized "java/lang/IndexOutOfBoundsException" :: vx_atS RX6 308 "java/lang/IndexOutOfBoundsException" zNs, vx_ot w = true := by decide +kernel
theorem zngA : ∀ w ∈ (vx_atS RX6 55 "java/lang/IllegalArgumentException" zNs).filter (fun w => !goodWord w), w ∈ zBw "java/lang/IllegalArgumentException" := by decide +kernel
theorem zgdA : ∀ w ∈ Cond.classLink RX6 51 "java/lang/IllegalArgumentException" :: Cond.initialized "java/lang/IllegalArgumentException" :: vx_atS RX6 55 "java/lang/IllegalArgumentException" zNs, vx_ot w = true := by decide +kernel
theorem zngS : ∀ w ∈ (vx_atS RX6 66 "java/lang/IllegalStateException" zNs).filter (fun w => !goodWord w), w ∈ zBw "java/lang/IllegalStateException" := by decide +kernel
theorem zgdS : ∀ w ∈ Cond.classLink RX6 62 "java/lang/IllegalStateException" :: Cond.initialized "java/lang/IllegalStateException" :: vx_atS RX6 66 "java/lang/IllegalStateException" zNs, vx_ot w = true := by decide +kernel
