/-! a judgement that hides heap, written places and the locals' array: zJ; the kit's rows said over it -/
abbrev zX : Type := Program × Launch × Env × Room × State × MethodId × Array Value × List Frame × Method × Code
abbrev zp (X : zX) : Program := X.1
abbrev zl (X : zX) : Launch := X.2.1
abbrev ze (X : zX) : Env := X.2.2.1
abbrev zR (X : zX) : Room := X.2.2.2.1
abbrev zs (X : zX) : State := X.2.2.2.2.1
abbrev zm (X : zX) : MethodId := X.2.2.2.2.2.1
abbrev za (X : zX) : Array Value := X.2.2.2.2.2.2.1
abbrev zb (X : zX) : List Frame := X.2.2.2.2.2.2.2.1
abbrev zmeth (X : zX) : Method := X.2.2.2.2.2.2.2.2.1
abbrev zc (X : zX) : Code := X.2.2.2.2.2.2.2.2.2
abbrev vwCl : List vw_C := [(RX0, TX0, 11), (RX1, TX1, 5), (RX2, TX2, 7), (RX3, TX3, 3), (RX4, TX4, 2), (RX5, TX5, 2), (RX6, TX6, 6)]
def zW (X : zX) (H : Heap) (locs : List Loc) (k n : Nat) (Q : State → Prop) (g : JFrame) : Prop :=
  W (zp X) (zl X) (ze X) (zR X) (zs X) (zm X) (za X) (zb X) (zmeth X) (zc X) H locs k n Q g
abbrev zII : Type := va_W → Heap → List Loc → Prop
def zJ (X : zX) (nL : Nat) (I : zII) (Q : State → Prop) (w : va_W) (k n : Nat) (lv : List (Nat × Value)) (pc : Nat) (st : List Value) : Prop :=
  ∀ (H : Heap) (locs : List Loc) (ls : Array Slot), I w H locs → lv_has ls nL lv → zW X H locs k n Q (F0 (zm X) pc ls st)
/-- what stays through a method -/
def zB (X : zX) (own : String) (cc : ByteArray) (nL : Nat) (Ts : List Cond) (rm : Room) (D : va_G) (tys : List (ClassId × FieldType)) (I : zII) : Prop :=
  (zp X).tables.exec = Jvm.exec ∧ (zc X).code = cc ∧ (zc X).maxLocals = nL ∧ (zs X).vm.findClass own = some (zm X).cls ∧ (∀ w ∈ Ts, w.before (za X) (zs X) = true) ∧ va_K D vwCl tys (zs X) ∧ (∀ w H locs, I w H locs → va_P D vwCl w H) ∧ zR X = rm ∧ (zmeth X).locks = false
def zI0 (D : va_G) (s : State) : zII := fun w H locs => va_P D vwCl w H ∧ H = s.heap ∧ locs = []
def zI1 (D : va_G) (A : Nat → Prop) (s : State) : zII := fun w H locs => va_P D vwCl w H ∧ va_D A w ∧ va_S A s.heap H locs ∧ ∀ q, s.heap.size ≤ q → A q
section ZR
variable {X : zX} {own : String} {cc : ByteArray} {nL : Nat} {Ts : List Cond} {rm : Room} {D : va_G} {tys : List (ClassId × FieldType)} {I : zII} {Q : State → Prop} {w : va_W} {k n : Nat} {lv lv' : List (Nat × Value)} {pc : Nat} {st : List Value}
theorem zts (B : zB X own cc nL Ts rm D tys I) {w : Cond} (i : Nat) (h : Ts[i]? = some w) : w.before (za X) (zs X) = true := B.2.2.2.2.1 w (List.mem_of_getElem? h)
theorem z_loc (ks : List Nat) (h : lv_pick lv ks = lv') (kk : zJ X nL I Q w k n lv' pc st) : zJ X nL I Q w k n lv pc st := fun H locs ls hI hL => kk H locs ls hI (lv_sub hL ks h)
theorem z_top {x y : Int32} (h : x = y) (kk : zJ X nL I Q w k n lv pc (.int y :: st)) : zJ X nL I Q w k n lv pc (.int x :: st) := h ▸ kk
theorem z_topv {x y : Value} (h : x = y) (kk : zJ X nL I Q w k n lv pc (y :: st)) : zJ X nL I Q w k n lv pc (x :: st) := h ▸ kk
theorem z_top2 {x y : Int32} {v : Value} (h : x = y) (kk : zJ X nL I Q w k n lv pc (v :: .int y :: st)) : zJ X nL I Q w k n lv pc (v :: .int x :: st) := h ▸ kk
theorem z_nm {x : Int32} (kk : ∀ y : Int32, y = x → zJ X nL I Q w k n lv pc (.int y :: st)) : zJ X nL I Q w k n lv pc (.int x :: st) := kk x rfl
theorem z_w {w' : va_W} (h : w = w') (kk : zJ X nL I Q w' k n lv pc st) : zJ X nL I Q w k n lv pc st := h ▸ kk
theorem z_wid {k' n' : Nat} (h1 : k ≤ k') (h2 : n ≤ n') (kk : zJ X nL I Q w k' n' lv pc st) : zJ X nL I Q w k n lv pc st := fun H locs ls hI hL => W.widen h1 h2 (kk H locs ls hI hL)
theorem nI_cat (x : Int32) : (Value.int x).category = 1 := rfl
theorem z_iconst (B : zB X own cc nL Ts rm D tys I) {c : Int} {v : Int32} (hdg : decode cc pc = .ok (.iconst c, 1)) (hv : Int32.ofInt c = v) (kk : zJ X nL I Q w k n lv (pc + 1) (.int v :: st)) : zJ X nL I Q w k n lv pc st := by
  intro H locs ls hI hL
  exact lv_iconst B.1 B.2.1 hdg hv (kk H locs ls hI hL)
theorem z_bipush (B : zB X own cc nL Ts rm D tys I) {c : Int} {v : Int32} (hdg : decode cc pc = .ok (.bipush c, 2)) (hv : (Int8.ofInt c).toInt32 = v) (kk : zJ X nL I Q w k n lv (pc + 2) (.int v :: st)) : zJ X nL I Q w k n lv pc st := by
  intro H locs ls hI hL
  exact lv_bipush B.1 B.2.1 hdg hv (kk H locs ls hI hL)
theorem z_sipush (B : zB X own cc nL Ts rm D tys I) {c : Int} {v : Int32} (hdg : decode cc pc = .ok (.sipush c, 3)) (hv : (Int16.ofInt c).toInt32 = v) (kk : zJ X nL I Q w k n lv (pc + 3) (.int v :: st)) : zJ X nL I Q w k n lv pc st := by
  intro H locs ls hI hL
  exact lv_sipush B.1 B.2.1 hdg hv (kk H locs ls hI hL)
theorem z_ldc (B : zB X own cc nL Ts rm D tys I) {index : Nat} {v : Int32} (i : Nat) (hc : Ts[i]? = some (Jvm.Cond.constant own index v)) (hdg : decode cc pc = .ok (.ldc index, 2)) (kk : zJ X nL I Q w k n lv (pc + 2) (.int v :: st)) : zJ X nL I Q w k n lv pc st := by
  intro H locs ls hI hL
  exact lv_ldc B.1 B.2.1 B.2.2.2.1 (zts B i hc) hdg (kk H locs ls hI hL)
theorem z_lconst (B : zB X own cc nL Ts rm D tys I) {c : Fin 2} {v : Int64} (hdg : decode cc pc = .ok (.lconst c, 1)) (hv : Int64.ofNat (c : Nat) = v) (kk : zJ X nL I Q w k n lv (pc + 1) (.long v :: st)) : zJ X nL I Q w k n lv pc st := by
  intro H locs ls hI hL
  exact lv_lconst B.1 B.2.1 hdg hv (kk H locs ls hI hL)
theorem z_null (B : zB X own cc nL Ts rm D tys I)  (hdg : decode cc pc = .ok (.aconst_null, 1)) (kk : zJ X nL I Q w k n lv (pc + 1) (.null :: st)) : zJ X nL I Q w k n lv pc st := by
  intro H locs ls hI hL
  exact lv_null B.1 B.2.1 hdg (kk H locs ls hI hL)
theorem z_iload_n (B : zB X own cc nL Ts rm D tys I) {x : Int32} {c : Fin 4} {i : Nat} (j : Nat) (hdg : decode cc pc = .ok (.iload_n c, 1)) (hi : (c : Nat) = i) (hl : lv[j]? = some (i, .int x)) (kk : zJ X nL I Q w k n lv (pc + 1) (.int x :: st)) : zJ X nL I Q w k n lv pc st := by
  intro H locs ls hI hL
  exact lv_iload_n B.1 B.2.1 hdg hi (lv_at hL j hl) (kk H locs ls hI hL)
theorem z_iload (B : zB X own cc nL Ts rm D tys I) {x : Int32} {i : Nat} (j : Nat) (hdg : decode cc pc = .ok (.iload i, 2)) (hl : lv[j]? = some (i, .int x)) (kk : zJ X nL I Q w k n lv (pc + 2) (.int x :: st)) : zJ X nL I Q w k n lv pc st := by
  intro H locs ls hI hL
  exact lv_iload B.1 B.2.1 hdg (lv_at hL j hl) (kk H locs ls hI hL)
theorem z_aload_n (B : zB X own cc nL Ts rm D tys I) {x : Nat} {c : Fin 4} {i : Nat} (j : Nat) (hdg : decode cc pc = .ok (.aload_n c, 1)) (hi : (c : Nat) = i) (hl : lv[j]? = some (i, .ref x)) (kk : zJ X nL I Q w k n lv (pc + 1) (.ref x :: st)) : zJ X nL I Q w k n lv pc st := by
  intro H locs ls hI hL
  exact lv_aload_n B.1 B.2.1 hdg hi (lv_at hL j hl) (kk H locs ls hI hL)
theorem z_aload (B : zB X own cc nL Ts rm D tys I) {x : Nat} {i : Nat} (j : Nat) (hdg : decode cc pc = .ok (.aload i, 2)) (hl : lv[j]? = some (i, .ref x)) (kk : zJ X nL I Q w k n lv (pc + 2) (.ref x :: st)) : zJ X nL I Q w k n lv pc st := by
  intro H locs ls hI hL
  exact lv_aload B.1 B.2.1 hdg (lv_at hL j hl) (kk H locs ls hI hL)
theorem z_lload_n (B : zB X own cc nL Ts rm D tys I) {x : Int64} {c : Fin 4} {i : Nat} (j : Nat) (hdg : decode cc pc = .ok (.lload_n c, 1)) (hi : (c : Nat) = i) (hl : lv[j]? = some (i, .long x)) (kk : zJ X nL I Q w k n lv (pc + 1) (.long x :: st)) : zJ X nL I Q w k n lv pc st := by
  intro H locs ls hI hL
  exact lv_lload_n B.1 B.2.1 hdg hi (lv_at hL j hl) (kk H locs ls hI hL)
theorem z_lload (B : zB X own cc nL Ts rm D tys I) {x : Int64} {i : Nat} (j : Nat) (hdg : decode cc pc = .ok (.lload i, 2)) (hl : lv[j]? = some (i, .long x)) (kk : zJ X nL I Q w k n lv (pc + 2) (.long x :: st)) : zJ X nL I Q w k n lv pc st := by
  intro H locs ls hI hL
  exact lv_lload B.1 B.2.1 hdg (lv_at hL j hl) (kk H locs ls hI hL)
theorem z_aload_nN (B : zB X own cc nL Ts rm D tys I) {c : Fin 4} {i : Nat} (j : Nat) (hdg : decode cc pc = .ok (.aload_n c, 1)) (hi : (c : Nat) = i) (hl : lv[j]? = some (i, .null)) (kk : zJ X nL I Q w k n lv (pc + 1) (.null :: st)) : zJ X nL I Q w k n lv pc st := by
  intro H locs ls hI hL
  exact lv_aload_nN B.1 B.2.1 hdg hi (lv_at hL j hl) (kk H locs ls hI hL)
theorem z_aloadN (B : zB X own cc nL Ts rm D tys I) {i : Nat} (j : Nat) (hdg : decode cc pc = .ok (.aload i, 2)) (hl : lv[j]? = some (i, .null)) (kk : zJ X nL I Q w k n lv (pc + 2) (.null :: st)) : zJ X nL I Q w k n lv pc st := by
  intro H locs ls hI hL
  exact lv_aloadN B.1 B.2.1 hdg (lv_at hL j hl) (kk H locs ls hI hL)
theorem z_istore_n (B : zB X own cc nL Ts rm D tys I) {x : Int32} {c : Fin 4} {i : Nat} (lv1 : List (Nat × Value)) (hdg : decode cc pc = .ok (.istore_n c, 1)) (hi : (c : Nat) = i) (hn : i < nL) (hl : (i, Value.int x) :: lv.filter (fun q => !(q.1 == i) && !(q.1 + 1 == i && q.2.category == 2)) = lv1) (kk : zJ X nL I Q w k n lv1 (pc + 1) st) : zJ X nL I Q w k n lv pc (.int x :: st) := by
  intro H locs ls hI hL
  exact lv_istore_n B.1 B.2.1 hdg hi hL hn hl (fun ls' hL' => kk H locs ls' hI hL')
theorem z_istore (B : zB X own cc nL Ts rm D tys I) {x : Int32} {i : Nat} (lv1 : List (Nat × Value)) (hdg : decode cc pc = .ok (.istore i, 2)) (hn : i < nL) (hl : (i, Value.int x) :: lv.filter (fun q => !(q.1 == i) && !(q.1 + 1 == i && q.2.category == 2)) = lv1) (kk : zJ X nL I Q w k n lv1 (pc + 2) st) : zJ X nL I Q w k n lv pc (.int x :: st) := by
  intro H locs ls hI hL
  exact lv_istore B.1 B.2.1 hdg hL hn hl (fun ls' hL' => kk H locs ls' hI hL')
theorem z_astore_n (B : zB X own cc nL Ts rm D tys I) {x : Nat} {c : Fin 4} {i : Nat} (lv1 : List (Nat × Value)) (hdg : decode cc pc = .ok (.astore_n c, 1)) (hi : (c : Nat) = i) (hn : i < nL) (hl : (i, Value.ref x) :: lv.filter (fun q => !(q.1 == i) && !(q.1 + 1 == i && q.2.category == 2)) = lv1) (kk : zJ X nL I Q w k n lv1 (pc + 1) st) : zJ X nL I Q w k n lv pc (.ref x :: st) := by
  intro H locs ls hI hL
  exact lv_astore_n B.1 B.2.1 hdg hi hL hn hl (fun ls' hL' => kk H locs ls' hI hL')
theorem z_astore (B : zB X own cc nL Ts rm D tys I) {x : Nat} {i : Nat} (lv1 : List (Nat × Value)) (hdg : decode cc pc = .ok (.astore i, 2)) (hn : i < nL) (hl : (i, Value.ref x) :: lv.filter (fun q => !(q.1 == i) && !(q.1 + 1 == i && q.2.category == 2)) = lv1) (kk : zJ X nL I Q w k n lv1 (pc + 2) st) : zJ X nL I Q w k n lv pc (.ref x :: st) := by
  intro H locs ls hI hL
  exact lv_astore B.1 B.2.1 hdg hL hn hl (fun ls' hL' => kk H locs ls' hI hL')
theorem z_astore_nN (B : zB X own cc nL Ts rm D tys I) {c : Fin 4} {i : Nat} (lv1 : List (Nat × Value)) (hdg : decode cc pc = .ok (.astore_n c, 1)) (hi : (c : Nat) = i) (hn : i < nL) (hl : (i, Value.null) :: lv.filter (fun q => !(q.1 == i) && !(q.1 + 1 == i && q.2.category == 2)) = lv1) (kk : zJ X nL I Q w k n lv1 (pc + 1) st) : zJ X nL I Q w k n lv pc (.null :: st) := by
  intro H locs ls hI hL
  exact lv_astore_nN B.1 B.2.1 hdg hi hL hn hl (fun ls' hL' => kk H locs ls' hI hL')
theorem z_astoreN (B : zB X own cc nL Ts rm D tys I) {i : Nat} (lv1 : List (Nat × Value)) (hdg : decode cc pc = .ok (.astore i, 2)) (hn : i < nL) (hl : (i, Value.null) :: lv.filter (fun q => !(q.1 == i) && !(q.1 + 1 == i && q.2.category == 2)) = lv1) (kk : zJ X nL I Q w k n lv1 (pc + 2) st) : zJ X nL I Q w k n lv pc (.null :: st) := by
  intro H locs ls hI hL
  exact lv_astoreN B.1 B.2.1 hdg hL hn hl (fun ls' hL' => kk H locs ls' hI hL')
theorem z_iinc (B : zB X own cc nL Ts rm D tys I) {i : Nat} {c : Int} {x v : Int32} (j : Nat) (lv1 : List (Nat × Value)) (hdg : decode cc pc = .ok (.iinc i c, 3)) (hk : lv[j]? = some (i, .int x)) (hv : x + Int32.ofInt c = v) (hn : i < nL) (hl : (i, Value.int v) :: lv.filter (fun q => !(q.1 == i) && !(q.1 + 1 == i && q.2.category == 2)) = lv1) (kk : zJ X nL I Q w k n lv1 (pc + 3) st) : zJ X nL I Q w k n lv pc st := by
  intro H locs ls hI hL
  exact lv_iinc B.1 B.2.1 hdg hL hk hv hn hl (fun ls' hL' => kk H locs ls' hI hL')
theorem z_iadd (B : zB X own cc nL Ts rm D tys I) {x y : Int32} (hdg : decode cc pc = .ok (.iadd, 1)) (kk : zJ X nL I Q w k n lv (pc + 1) (.int (x + y) :: st)) : zJ X nL I Q w k n lv pc (.int y :: .int x :: st) := by
  intro H locs ls hI hL
  exact lv_iadd B.1 B.2.1 hdg (kk H locs ls hI hL)
theorem z_isub (B : zB X own cc nL Ts rm D tys I) {x y : Int32} (hdg : decode cc pc = .ok (.isub, 1)) (kk : zJ X nL I Q w k n lv (pc + 1) (.int (x - y) :: st)) : zJ X nL I Q w k n lv pc (.int y :: .int x :: st) := by
  intro H locs ls hI hL
  exact lv_isub B.1 B.2.1 hdg (kk H locs ls hI hL)
theorem z_imul (B : zB X own cc nL Ts rm D tys I) {x y : Int32} (hdg : decode cc pc = .ok (.imul, 1)) (kk : zJ X nL I Q w k n lv (pc + 1) (.int (x * y) :: st)) : zJ X nL I Q w k n lv pc (.int y :: .int x :: st) := by
  intro H locs ls hI hL
  exact lv_imul B.1 B.2.1 hdg (kk H locs ls hI hL)
theorem z_iand (B : zB X own cc nL Ts rm D tys I) {x y : Int32} (hdg : decode cc pc = .ok (.iand, 1)) (kk : zJ X nL I Q w k n lv (pc + 1) (.int (x &&& y) :: st)) : zJ X nL I Q w k n lv pc (.int y :: .int x :: st) := by
  intro H locs ls hI hL
  exact lv_iand B.1 B.2.1 hdg (kk H locs ls hI hL)
theorem z_ior (B : zB X own cc nL Ts rm D tys I) {x y : Int32} (hdg : decode cc pc = .ok (.ior, 1)) (kk : zJ X nL I Q w k n lv (pc + 1) (.int (x ||| y) :: st)) : zJ X nL I Q w k n lv pc (.int y :: .int x :: st) := by
  intro H locs ls hI hL
  exact lv_ior B.1 B.2.1 hdg (kk H locs ls hI hL)
theorem z_ixor (B : zB X own cc nL Ts rm D tys I) {x y : Int32} (hdg : decode cc pc = .ok (.ixor, 1)) (kk : zJ X nL I Q w k n lv (pc + 1) (.int (x ^^^ y) :: st)) : zJ X nL I Q w k n lv pc (.int y :: .int x :: st) := by
  intro H locs ls hI hL
  exact lv_ixor B.1 B.2.1 hdg (kk H locs ls hI hL)
theorem z_iaddN (B : zB X own cc nL Ts rm D tys I) {a b : Nat} (hdg : decode cc pc = .ok (.iadd, 1)) (kk : zJ X nL I Q w k n lv (pc + 1) (.int (nI (a + b)) :: st)) : zJ X nL I Q w k n lv pc (.int (nI b) :: .int (nI a) :: st) := by
  intro H locs ls hI hL
  exact lv_iadd B.1 B.2.1 hdg (by rw [nI_add]; exact kk H locs ls hI hL)
theorem z_imulN (B : zB X own cc nL Ts rm D tys I) {a b : Nat} (hdg : decode cc pc = .ok (.imul, 1)) (kk : zJ X nL I Q w k n lv (pc + 1) (.int (nI (a * b)) :: st)) : zJ X nL I Q w k n lv pc (.int (nI b) :: .int (nI a) :: st) := by
  intro H locs ls hI hL
  exact lv_imul B.1 B.2.1 hdg (by rw [pk_mul]; exact kk H locs ls hI hL)
theorem z_isubN (B : zB X own cc nL Ts rm D tys I) {a b : Nat} (hdg : decode cc pc = .ok (.isub, 1)) (hle : b ≤ a) (kk : zJ X nL I Q w k n lv (pc + 1) (.int (nI (a - b)) :: st)) : zJ X nL I Q w k n lv pc (.int (nI b) :: .int (nI a) :: st) := by
  intro H locs ls hI hL
  exact lv_isub B.1 B.2.1 hdg (by rw [pk_sub hle]; exact kk H locs ls hI hL)
theorem z_irem (B : zB X own cc nL Ts rm D tys I) {x y : Int32} (hdg : decode cc pc = .ok (.irem, 1)) (hne : ¬ y = 0) (kk : zJ X nL I Q w k n lv (pc + 1) (.int (x - x / y * y) :: st)) : zJ X nL I Q w k n lv pc (.int y :: .int x :: st) := by
  intro H locs ls hI hL
  exact lv_irem B.1 B.2.1 hdg hne (kk H locs ls hI hL)
theorem z_ineg (B : zB X own cc nL Ts rm D tys I) {x : Int32} (hdg : decode cc pc = .ok (.ineg, 1)) (kk : zJ X nL I Q w k n lv (pc + 1) (.int (-x) :: st)) : zJ X nL I Q w k n lv pc (.int x :: st) := by
  intro H locs ls hI hL
  exact lv_ineg B.1 B.2.1 hdg (kk H locs ls hI hL)
theorem z_ishl (B : zB X own cc nL Ts rm D tys I) {x y : Int32} (hdg : decode cc pc = .ok (.ishl, 1)) (kk : zJ X nL I Q w k n lv (pc + 1) (.int (x <<< (y &&& 31)) :: st)) : zJ X nL I Q w k n lv pc (.int y :: .int x :: st) := by
  intro H locs ls hI hL
  exact lv_ishl B.1 B.2.1 hdg (kk H locs ls hI hL)
theorem z_i2l (B : zB X own cc nL Ts rm D tys I) {x : Int32} (hdg : decode cc pc = .ok (.i2l, 1)) (kk : zJ X nL I Q w k n lv (pc + 1) (.long x.toInt64 :: st)) : zJ X nL I Q w k n lv pc (.int x :: st) := by
  intro H locs ls hI hL
  exact lv_i2l B.1 B.2.1 hdg rfl (kk H locs ls hI hL)
theorem z_lcmp (B : zB X own cc nL Ts rm D tys I) {x y : Int64} (hdg : decode cc pc = .ok (.lcmp, 1)) (kk : zJ X nL I Q w k n lv (pc + 1) (.int (lg_cmp x y) :: st)) : zJ X nL I Q w k n lv pc (.long y :: .long x :: st) := by
  intro H locs ls hI hL
  exact W.lcmp B.1 B.2.1 hdg (kk H locs ls hI hL)
theorem z_dup (B : zB X own cc nL Ts rm D tys I) {v : Value} (hdg : decode cc pc = .ok (.dup, 1)) (hv : v.category = 1) (kk : zJ X nL I Q w k n lv (pc + 1) (v :: v :: st)) : zJ X nL I Q w k n lv pc (v :: st) := by
  intro H locs ls hI hL
  exact lv_dup B.1 B.2.1 hdg hv (kk H locs ls hI hL)
theorem z_pop (B : zB X own cc nL Ts rm D tys I) {v : Value} (hdg : decode cc pc = .ok (.pop, 1)) (hv : v.category = 1) (kk : zJ X nL I Q w k n lv (pc + 1) st) : zJ X nL I Q w k n lv pc (v :: st) := by
  intro H locs ls hI hL
  exact lv_pop B.1 B.2.1 hdg hv (kk H locs ls hI hL)
theorem z_dup_x1 (B : zB X own cc nL Ts rm D tys I) {v u : Value} (hdg : decode cc pc = .ok (.dup_x1, 1)) (hv : v.category = 1) (hu : u.category = 1) (kk : zJ X nL I Q w k n lv (pc + 1) (v :: u :: v :: st)) : zJ X nL I Q w k n lv pc (v :: u :: st) := by
  intro H locs ls hI hL
  exact lv_dup_x1 B.1 B.2.1 hdg hv hu (kk H locs ls hI hL)
theorem z_if_eq (B : zB X own cc nL Ts rm D tys I) {x : Int32} {off : Int} (tgt : Nat) (hdg : decode cc pc = .ok (.ifCond .eq off, 3)) (ht : (pc : Int) + off = (tgt : Int)) (kt : x = 0 → zJ X nL I Q w k n lv tgt st) (kf : ¬ x = 0 → zJ X nL I Q w k n lv (pc + 3) st) : zJ X nL I Q w k n lv pc (.int x :: st) := by
  intro H locs ls hI hL
  exact lv_if_eq B.1 B.2.1 hdg ht (fun h => kt h H locs ls hI hL) (fun h => kf h H locs ls hI hL)
theorem z_if_ne (B : zB X own cc nL Ts rm D tys I) {x : Int32} {off : Int} (tgt : Nat) (hdg : decode cc pc = .ok (.ifCond .ne off, 3)) (ht : (pc : Int) + off = (tgt : Int)) (kt : ¬ x = 0 → zJ X nL I Q w k n lv tgt st) (kf : x = 0 → zJ X nL I Q w k n lv (pc + 3) st) : zJ X nL I Q w k n lv pc (.int x :: st) := by
  intro H locs ls hI hL
  exact lv_if_ne B.1 B.2.1 hdg ht (fun h => kt h H locs ls hI hL) (fun h => kf h H locs ls hI hL)
theorem z_if_lt (B : zB X own cc nL Ts rm D tys I) {x : Int32} {off : Int} (tgt : Nat) (hdg : decode cc pc = .ok (.ifCond .lt off, 3)) (ht : (pc : Int) + off = (tgt : Int)) (kt : x < 0 → zJ X nL I Q w k n lv tgt st) (kf : ¬ x < 0 → zJ X nL I Q w k n lv (pc + 3) st) : zJ X nL I Q w k n lv pc (.int x :: st) := by
  intro H locs ls hI hL
  exact lv_if_lt B.1 B.2.1 hdg ht (fun h => kt h H locs ls hI hL) (fun h => kf h H locs ls hI hL)
theorem z_if_ge (B : zB X own cc nL Ts rm D tys I) {x : Int32} {off : Int} (tgt : Nat) (hdg : decode cc pc = .ok (.ifCond .ge off, 3)) (ht : (pc : Int) + off = (tgt : Int)) (kt : 0 ≤ x → zJ X nL I Q w k n lv tgt st) (kf : ¬ 0 ≤ x → zJ X nL I Q w k n lv (pc + 3) st) : zJ X nL I Q w k n lv pc (.int x :: st) := by
  intro H locs ls hI hL
  exact lv_if_ge B.1 B.2.1 hdg ht (fun h => kt h H locs ls hI hL) (fun h => kf h H locs ls hI hL)
theorem z_if_gt (B : zB X own cc nL Ts rm D tys I) {x : Int32} {off : Int} (tgt : Nat) (hdg : decode cc pc = .ok (.ifCond .gt off, 3)) (ht : (pc : Int) + off = (tgt : Int)) (kt : 0 < x → zJ X nL I Q w k n lv tgt st) (kf : ¬ 0 < x → zJ X nL I Q w k n lv (pc + 3) st) : zJ X nL I Q w k n lv pc (.int x :: st) := by
  intro H locs ls hI hL
  exact lv_if_gt B.1 B.2.1 hdg ht (fun h => kt h H locs ls hI hL) (fun h => kf h H locs ls hI hL)
theorem z_if_le (B : zB X own cc nL Ts rm D tys I) {x : Int32} {off : Int} (tgt : Nat) (hdg : decode cc pc = .ok (.ifCond .le off, 3)) (ht : (pc : Int) + off = (tgt : Int)) (kt : x ≤ 0 → zJ X nL I Q w k n lv tgt st) (kf : ¬ x ≤ 0 → zJ X nL I Q w k n lv (pc + 3) st) : zJ X nL I Q w k n lv pc (.int x :: st) := by
  intro H locs ls hI hL
  exact lv_if_le B.1 B.2.1 hdg ht (fun h => kt h H locs ls hI hL) (fun h => kf h H locs ls hI hL)
theorem z_icmp_eq (B : zB X own cc nL Ts rm D tys I) {x y : Int32} {off : Int} (tgt : Nat) (hdg : decode cc pc = .ok (.if_icmp .eq off, 3)) (ht : (pc : Int) + off = (tgt : Int)) (kt : x = y → zJ X nL I Q w k n lv tgt st) (kf : ¬ x = y → zJ X nL I Q w k n lv (pc + 3) st) : zJ X nL I Q w k n lv pc (.int y :: .int x :: st) := by
  intro H locs ls hI hL
  exact lv_icmp_eq B.1 B.2.1 hdg ht (fun h => kt h H locs ls hI hL) (fun h => kf h H locs ls hI hL)
theorem z_icmp_ne (B : zB X own cc nL Ts rm D tys I) {x y : Int32} {off : Int} (tgt : Nat) (hdg : decode cc pc = .ok (.if_icmp .ne off, 3)) (ht : (pc : Int) + off = (tgt : Int)) (kt : ¬ x = y → zJ X nL I Q w k n lv tgt st) (kf : x = y → zJ X nL I Q w k n lv (pc + 3) st) : zJ X nL I Q w k n lv pc (.int y :: .int x :: st) := by
  intro H locs ls hI hL
  exact lv_icmp_ne B.1 B.2.1 hdg ht (fun h => kt h H locs ls hI hL) (fun h => kf h H locs ls hI hL)
theorem z_icmp_lt (B : zB X own cc nL Ts rm D tys I) {x y : Int32} {off : Int} (tgt : Nat) (hdg : decode cc pc = .ok (.if_icmp .lt off, 3)) (ht : (pc : Int) + off = (tgt : Int)) (kt : x < y → zJ X nL I Q w k n lv tgt st) (kf : ¬ x < y → zJ X nL I Q w k n lv (pc + 3) st) : zJ X nL I Q w k n lv pc (.int y :: .int x :: st) := by
  intro H locs ls hI hL
  exact lv_icmp_lt B.1 B.2.1 hdg ht (fun h => kt h H locs ls hI hL) (fun h => kf h H locs ls hI hL)
theorem z_icmp_ge (B : zB X own cc nL Ts rm D tys I) {x y : Int32} {off : Int} (tgt : Nat) (hdg : decode cc pc = .ok (.if_icmp .ge off, 3)) (ht : (pc : Int) + off = (tgt : Int)) (kt : y ≤ x → zJ X nL I Q w k n lv tgt st) (kf : ¬ y ≤ x → zJ X nL I Q w k n lv (pc + 3) st) : zJ X nL I Q w k n lv pc (.int y :: .int x :: st) := by
  intro H locs ls hI hL
  exact lv_icmp_ge B.1 B.2.1 hdg ht (fun h => kt h H locs ls hI hL) (fun h => kf h H locs ls hI hL)
theorem z_icmp_gt (B : zB X own cc nL Ts rm D tys I) {x y : Int32} {off : Int} (tgt : Nat) (hdg : decode cc pc = .ok (.if_icmp .gt off, 3)) (ht : (pc : Int) + off = (tgt : Int)) (kt : y < x → zJ X nL I Q w k n lv tgt st) (kf : ¬ y < x → zJ X nL I Q w k n lv (pc + 3) st) : zJ X nL I Q w k n lv pc (.int y :: .int x :: st) := by
  intro H locs ls hI hL
  exact lv_icmp_gt B.1 B.2.1 hdg ht (fun h => kt h H locs ls hI hL) (fun h => kf h H locs ls hI hL)
theorem z_icmp_le (B : zB X own cc nL Ts rm D tys I) {x y : Int32} {off : Int} (tgt : Nat) (hdg : decode cc pc = .ok (.if_icmp .le off, 3)) (ht : (pc : Int) + off = (tgt : Int)) (kt : x ≤ y → zJ X nL I Q w k n lv tgt st) (kf : ¬ x ≤ y → zJ X nL I Q w k n lv (pc + 3) st) : zJ X nL I Q w k n lv pc (.int y :: .int x :: st) := by
  intro H locs ls hI hL
  exact lv_icmp_le B.1 B.2.1 hdg ht (fun h => kt h H locs ls hI hL) (fun h => kf h H locs ls hI hL)
theorem z_icmpN_eq (B : zB X own cc nL Ts rm D tys I) {a b : Nat} {off : Int} (tgt : Nat) (hdg : decode cc pc = .ok (.if_icmp .eq off, 3)) (ht : (pc : Int) + off = (tgt : Int)) (ha : a < 2 ^ 31) (hb : b < 2 ^ 31) (kt : a = b → zJ X nL I Q w k n lv tgt st) (kf : a ≠ b → zJ X nL I Q w k n lv (pc + 3) st) : zJ X nL I Q w k n lv pc (.int (nI b) :: .int (nI a) :: st) := by
  intro H locs ls hI hL
  exact lv_icmp_eq B.1 B.2.1 hdg ht (fun h => kt ((nI_eq ha hb).mp h) H locs ls hI hL) (fun h => kf (fun e => h ((nI_eq ha hb).mpr e)) H locs ls hI hL)
theorem z_icmpN_ne (B : zB X own cc nL Ts rm D tys I) {a b : Nat} {off : Int} (tgt : Nat) (hdg : decode cc pc = .ok (.if_icmp .ne off, 3)) (ht : (pc : Int) + off = (tgt : Int)) (ha : a < 2 ^ 31) (hb : b < 2 ^ 31) (kt : a ≠ b → zJ X nL I Q w k n lv tgt st) (kf : a = b → zJ X nL I Q w k n lv (pc + 3) st) : zJ X nL I Q w k n lv pc (.int (nI b) :: .int (nI a) :: st) := by
  intro H locs ls hI hL
  exact lv_icmp_ne B.1 B.2.1 hdg ht (fun h => kt (fun e => h ((nI_eq ha hb).mpr e)) H locs ls hI hL) (fun h => kf ((nI_eq ha hb).mp h) H locs ls hI hL)
theorem z_icmpN_lt (B : zB X own cc nL Ts rm D tys I) {a b : Nat} {off : Int} (tgt : Nat) (hdg : decode cc pc = .ok (.if_icmp .lt off, 3)) (ht : (pc : Int) + off = (tgt : Int)) (ha : a < 2 ^ 31) (hb : b < 2 ^ 31) (kt : a < b → zJ X nL I Q w k n lv tgt st) (kf : b ≤ a → zJ X nL I Q w k n lv (pc + 3) st) : zJ X nL I Q w k n lv pc (.int (nI b) :: .int (nI a) :: st) := by
  intro H locs ls hI hL
  exact lv_icmp_lt B.1 B.2.1 hdg ht (fun h => kt ((nI_ltI ha hb).mp h) H locs ls hI hL) (fun h => kf (Nat.le_of_not_lt (fun e => h ((nI_ltI ha hb).mpr e))) H locs ls hI hL)
theorem z_icmpN_ge (B : zB X own cc nL Ts rm D tys I) {a b : Nat} {off : Int} (tgt : Nat) (hdg : decode cc pc = .ok (.if_icmp .ge off, 3)) (ht : (pc : Int) + off = (tgt : Int)) (ha : a < 2 ^ 31) (hb : b < 2 ^ 31) (kt : b ≤ a → zJ X nL I Q w k n lv tgt st) (kf : a < b → zJ X nL I Q w k n lv (pc + 3) st) : zJ X nL I Q w k n lv pc (.int (nI b) :: .int (nI a) :: st) := by
  intro H locs ls hI hL
  exact lv_icmp_ge B.1 B.2.1 hdg ht (fun h => kt ((nI_leI hb ha).mp h) H locs ls hI hL) (fun h => kf (Nat.lt_of_not_le (fun e => h ((nI_leI hb ha).mpr e))) H locs ls hI hL)
theorem z_icmpN_gt (B : zB X own cc nL Ts rm D tys I) {a b : Nat} {off : Int} (tgt : Nat) (hdg : decode cc pc = .ok (.if_icmp .gt off, 3)) (ht : (pc : Int) + off = (tgt : Int)) (ha : a < 2 ^ 31) (hb : b < 2 ^ 31) (kt : b < a → zJ X nL I Q w k n lv tgt st) (kf : a ≤ b → zJ X nL I Q w k n lv (pc + 3) st) : zJ X nL I Q w k n lv pc (.int (nI b) :: .int (nI a) :: st) := by
  intro H locs ls hI hL
  exact lv_icmp_gt B.1 B.2.1 hdg ht (fun h => kt ((nI_ltI hb ha).mp h) H locs ls hI hL) (fun h => kf (Nat.le_of_not_lt (fun e => h ((nI_ltI hb ha).mpr e))) H locs ls hI hL)
theorem z_icmpN_le (B : zB X own cc nL Ts rm D tys I) {a b : Nat} {off : Int} (tgt : Nat) (hdg : decode cc pc = .ok (.if_icmp .le off, 3)) (ht : (pc : Int) + off = (tgt : Int)) (ha : a < 2 ^ 31) (hb : b < 2 ^ 31) (kt : a ≤ b → zJ X nL I Q w k n lv tgt st) (kf : b < a → zJ X nL I Q w k n lv (pc + 3) st) : zJ X nL I Q w k n lv pc (.int (nI b) :: .int (nI a) :: st) := by
  intro H locs ls hI hL
  exact lv_icmp_le B.1 B.2.1 hdg ht (fun h => kt ((nI_leI ha hb).mp h) H locs ls hI hL) (fun h => kf (Nat.lt_of_not_le (fun e => h ((nI_leI ha hb).mpr e))) H locs ls hI hL)
noncomputable def bI (P : Prop) : Int32 := @ite _ P (Classical.propDecidable P) 1 0
theorem bI_t {P : Prop} (h : P) : bI P = 1 := if_pos h
theorem bI_f {P : Prop} (h : ¬ P) : bI P = 0 := if_neg h
theorem bI_0 {P : Prop} : bI P = 0 ↔ ¬ P := by
  by_cases h : P
  · rw [bI_t h]; exact ⟨fun e => absurd e (by decide), fun e => absurd h e⟩
  · rw [bI_f h]; exact ⟨fun _ => h, fun _ => rfl⟩
theorem bI_n0 {P : Prop} : ¬ bI P = 0 ↔ P := by rw [bI_0]; exact Classical.not_not
theorem bI_or (P : Prop) : bI P = 0 ∨ bI P = 1 := by
  by_cases h : P
  · exact Or.inr (bI_t h)
  · exact Or.inl (bI_f h)
theorem bI_cg {P R : Prop} (h : P ↔ R) : bI P = bI R := by rw [propext h]
theorem bI_1 {P : Prop} (h : P) : nI 1 = bI P := (bI_t h).symm
theorem bI_z {P : Prop} (h : ¬ P) : nI 0 = bI P := (bI_f h).symm
theorem nar_b {x : Int32} (h : x = 0 ∨ x = 1) : narrow .boolean (.int x) = .int x := by rcases h with rfl | rfl <;> rfl
theorem nar_v {x : Int32} (h : x = 0 ∨ x = 1) : vp_nar .boolean x = x := by rcases h with rfl | rfl <;> rfl
theorem fit_b {x : Int32} (h : x = 0 ∨ x = 1) : fits .boolean (.int x) = true := by rcases h with rfl | rfl <;> rfl
theorem z_ifB_eq (B : zB X own cc nL Ts rm D tys I) {P : Prop} {off : Int} (tgt : Nat) (hdg : decode cc pc = .ok (.ifCond .eq off, 3)) (ht : (pc : Int) + off = (tgt : Int)) (kt : ¬ P → zJ X nL I Q w k n lv tgt st) (kf : P → zJ X nL I Q w k n lv (pc + 3) st) : zJ X nL I Q w k n lv pc (.int (bI P) :: st) := by
  intro H locs ls hI hL
  exact lv_if_eq B.1 B.2.1 hdg ht (fun h => kt (bI_0.mp h) H locs ls hI hL) (fun h => kf (bI_n0.mp h) H locs ls hI hL)
theorem z_ifB_ne (B : zB X own cc nL Ts rm D tys I) {P : Prop} {off : Int} (tgt : Nat) (hdg : decode cc pc = .ok (.ifCond .ne off, 3)) (ht : (pc : Int) + off = (tgt : Int)) (kt : P → zJ X nL I Q w k n lv tgt st) (kf : ¬ P → zJ X nL I Q w k n lv (pc + 3) st) : zJ X nL I Q w k n lv pc (.int (bI P) :: st) := by
  intro H locs ls hI hL
  exact lv_if_ne B.1 B.2.1 hdg ht (fun h => kt (bI_n0.mp h) H locs ls hI hL) (fun h => kf (bI_0.mp h) H locs ls hI hL)
theorem z_ifNB_eq (B : zB X own cc nL Ts rm D tys I) {P : Prop} {off : Int} (tgt : Nat) (hdg : decode cc pc = .ok (.ifCond .eq off, 3)) (ht : (pc : Int) + off = (tgt : Int)) (kt : P → zJ X nL I Q w k n lv tgt st) (kf : ¬ P → zJ X nL I Q w k n lv (pc + 3) st) : zJ X nL I Q w k n lv pc (.int (bI (¬ P)) :: st) := by
  intro H locs ls hI hL
  exact lv_if_eq B.1 B.2.1 hdg ht (fun h => kt (Classical.not_not.mp (bI_0.mp h)) H locs ls hI hL) (fun h => kf (bI_n0.mp h) H locs ls hI hL)
theorem z_ifNB_ne (B : zB X own cc nL Ts rm D tys I) {P : Prop} {off : Int} (tgt : Nat) (hdg : decode cc pc = .ok (.ifCond .ne off, 3)) (ht : (pc : Int) + off = (tgt : Int)) (kt : ¬ P → zJ X nL I Q w k n lv tgt st) (kf : P → zJ X nL I Q w k n lv (pc + 3) st) : zJ X nL I Q w k n lv pc (.int (bI (¬ P)) :: st) := by
  intro H locs ls hI hL
  exact lv_if_ne B.1 B.2.1 hdg ht (fun h => kt (bI_n0.mp h) H locs ls hI hL) (fun h => kf (Classical.not_not.mp (bI_0.mp h)) H locs ls hI hL)
theorem z_goto (B : zB X own cc nL Ts rm D tys I) {off : Int} (tgt : Nat) (hdg : decode cc pc = .ok (.goto off, 3)) (ht : (pc : Int) + off = (tgt : Int)) (kk : zJ X nL I Q w k n lv tgt st) : zJ X nL I Q w k n lv pc st := by
  intro H locs ls hI hL
  exact lv_goto B.1 B.2.1 hdg ht (kk H locs ls hI hL)
theorem z_ifnull (B : zB X own cc nL Ts rm D tys I) {x : Nat} {off : Int} (hdg : decode cc pc = .ok (.ifnull off, 3)) (kk : zJ X nL I Q w k n lv (pc + 3) st) : zJ X nL I Q w k n lv pc (.ref x :: st) := by
  intro H locs ls hI hL
  exact lv_ifnull B.1 B.2.1 hdg (kk H locs ls hI hL)
theorem z_ifnullN (B : zB X own cc nL Ts rm D tys I) {off : Int} (tgt : Nat) (hdg : decode cc pc = .ok (.ifnull off, 3)) (ht : (pc : Int) + off = (tgt : Int)) (kk : zJ X nL I Q w k n lv tgt st) : zJ X nL I Q w k n lv pc (.null :: st) := by
  intro H locs ls hI hL
  exact lv_ifnullN B.1 B.2.1 hdg ht (kk H locs ls hI hL)
theorem z_ifnonnull (B : zB X own cc nL Ts rm D tys I) {x : Nat} {off : Int} (tgt : Nat) (hdg : decode cc pc = .ok (.ifnonnull off, 3)) (ht : (pc : Int) + off = (tgt : Int)) (kk : zJ X nL I Q w k n lv tgt st) : zJ X nL I Q w k n lv pc (.ref x :: st) := by
  intro H locs ls hI hL
  exact lv_ifnonnull B.1 B.2.1 hdg ht (kk H locs ls hI hL)
theorem z_ifnonnullN (B : zB X own cc nL Ts rm D tys I) {off : Int} (hdg : decode cc pc = .ok (.ifnonnull off, 3)) (kk : zJ X nL I Q w k n lv (pc + 3) st) : zJ X nL I Q w k n lv pc (.null :: st) := by
  intro H locs ls hI hL
  exact lv_ifnonnullN B.1 B.2.1 hdg (kk H locs ls hI hL)
theorem z_acmp_eq (B : zB X own cc nL Ts rm D tys I) (rx ry : Option Nat) {vx vy : Value} {off : Int} (ex : vx = va_rf rx) (ey : vy = va_rf ry) (tgt : Nat) (hdg : decode cc pc = .ok (.if_acmp .eq off, 3)) (ht : (pc : Int) + off = (tgt : Int)) (kt : rx = ry → zJ X nL I Q w k n lv tgt st) (kf : ¬ rx = ry → zJ X nL I Q w k n lv (pc + 3) st) : zJ X nL I Q w k n lv pc (vy :: vx :: st) := by
  intro H locs ls hI hL
  subst ex; subst ey; exact lv_acmp_eq B.1 B.2.1 hdg ht (fun h => kt h H locs ls hI hL) (fun h => kf h H locs ls hI hL)
theorem z_acmp_ne (B : zB X own cc nL Ts rm D tys I) (rx ry : Option Nat) {vx vy : Value} {off : Int} (ex : vx = va_rf rx) (ey : vy = va_rf ry) (tgt : Nat) (hdg : decode cc pc = .ok (.if_acmp .ne off, 3)) (ht : (pc : Int) + off = (tgt : Int)) (kt : ¬ rx = ry → zJ X nL I Q w k n lv tgt st) (kf : rx = ry → zJ X nL I Q w k n lv (pc + 3) st) : zJ X nL I Q w k n lv pc (vy :: vx :: st) := by
  intro H locs ls hI hL
  subst ex; subst ey; exact lv_acmp_ne B.1 B.2.1 hdg ht (fun h => kt h H locs ls hI hL) (fun h => kf h H locs ls hI hL)
/-- the words of a class's fields stand among the method's -/
abbrev zF (Ts : List Cond) (C : String) (T : u_T) (N : Nat) : Prop := ∀ w ∈ u_ws C T N, w ∈ Ts
theorem z_get (B : zB X own cc nL Ts rm D tys I) {ref C : String} {T : u_T} {N ci index a : Nat} {fs : List Value} {v : Value} (q f i : Nat) (hF : zF Ts C T N) (he : w[q]? = some (a, .inr (ci, fs))) (hc : vwCl[ci]? = some (C, T, N)) (hf : f < N) (hk : Ts[i]? = some (Cond.fieldLink own index ref (T f).2.1 (T f).2.2.1)) (hsame : (T f).1 = ref) (hv : fs[f]? = some v) (hdg : decode cc pc = .ok (.getfield index, 3)) (kk : zJ X nL I Q w k n lv (pc + 3) (v :: st)) : zJ X nL I Q w k n lv pc (.ref a :: st) := by
  intro H locs ls hI hL
  exact va_get B.1 B.2.1 B.2.2.2.2.1 hF B.2.2.2.1 B.2.2.2.2.2.1 (B.2.2.2.2.2.2.1 w H locs hI) q he hc f hf (zts B i hk) (fun x h => by rw [← hsame]; exact h) hv hdg (kk H locs ls hI hL)
theorem z_iald (B : zB X own cc nL Ts rm D tys I) {cA : ClassId} {N a : Nat} {g : Nat → Int32} {i : Nat} (q t : Nat) (he : w[q]? = some (a, .inl (cA, N, .inl g))) (ht : tys[t]? = some (cA, .int)) (hi : i < N) (hN : N < 2 ^ 31) (hdg : decode cc pc = .ok (.iaload, 1)) (kk : zJ X nL I Q w k n lv (pc + 1) (.int (g i) :: st)) : zJ X nL I Q w k n lv pc (.int (nI i) :: .ref a :: st) := by
  intro H locs ls hI hL
  exact va_iald B.1 B.2.1 B.2.2.2.2.2.1 (B.2.2.2.2.2.2.1 w H locs hI) q t he ht (vp_in_nI hi hN) hdg (by rw [nI_clamp (by omega)]; exact kk H locs ls hI hL)
theorem z_zald (B : zB X own cc nL Ts rm D tys I) {cA : ClassId} {N a : Nat} {g : Nat → Int32} {i : Nat} (q t : Nat) (he : w[q]? = some (a, .inl (cA, N, .inl g))) (ht : tys[t]? = some (cA, .boolean)) (hi : i < N) (hN : N < 2 ^ 31) (hdg : decode cc pc = .ok (.baload, 1)) (kk : zJ X nL I Q w k n lv (pc + 1) (.int (g i) :: st)) : zJ X nL I Q w k n lv pc (.int (nI i) :: .ref a :: st) := by
  intro H locs ls hI hL
  exact va_zald B.1 B.2.1 B.2.2.2.2.2.1 (B.2.2.2.2.2.2.1 w H locs hI) q t he ht (vp_in_nI hi hN) hdg (by rw [nI_clamp (by omega)]; exact kk H locs ls hI hL)
theorem z_aldq (B : zB X own cc nL Ts rm D tys I) {cA : ClassId} {C : String} {N a : Nat} {g : Nat → Option Nat} {i : Nat} (q t : Nat) (he : w[q]? = some (a, .inl (cA, N, .inr (.inr (.inr (.inr g)))))) (ht : tys[t]? = some (cA, .object C)) (hi : i < N) (hN : N < 2 ^ 31) (hdg : decode cc pc = .ok (.aaload, 1)) (kk : zJ X nL I Q w k n lv (pc + 1) (va_rf (g i) :: st)) : zJ X nL I Q w k n lv pc (.int (nI i) :: .ref a :: st) := by
  intro H locs ls hI hL
  exact va_aldq B.1 B.2.1 B.2.2.2.2.2.1 (B.2.2.2.2.2.2.1 w H locs hI) q t he ht (vp_in_nI hi hN) hdg (by rw [nI_clamp (by omega)]; exact kk H locs ls hI hL)
theorem z_alen (B : zB X own cc nL Ts rm D tys I) {cA : ClassId} {a : Nat} {x : vp_A} {ty : FieldType} {v : Int32} (q t : Nat) (he : w[q]? = some (a, .inl (cA, x))) (ht : tys[t]? = some (cA, ty)) (hv : Int32.ofNat x.1 = v) (hdg : decode cc pc = .ok (.arraylength, 1)) (kk : zJ X nL I Q w k n lv (pc + 1) (.int v :: st)) : zJ X nL I Q w k n lv pc (.ref a :: st) := by
  intro H locs ls hI hL
  exact va_alen B.1 B.2.1 B.2.2.2.2.2.1 (B.2.2.2.2.2.2.1 w H locs hI) q t he ht hv hdg (kk H locs ls hI hL)
theorem z_dup2 (B : zB X own cc nL Ts rm D tys I) {v u : Value} (hdg : decode cc pc = .ok (.dup2, 1)) (hv : v.category = 1) (hu : u.category = 1) (kk : zJ X nL I Q w k n lv (pc + 1) (v :: u :: v :: u :: st)) : zJ X nL I Q w k n lv pc (v :: u :: st) := by
  intro H locs ls hI hL
  exact lv_dup2_11 B.1 B.2.1 hdg hv hu (kk H locs ls hI hL)
theorem z_ldc_w (B : zB X own cc nL Ts rm D tys I) {index : Nat} {v : Int32} (i : Nat) (hc : Ts[i]? = some (Jvm.Cond.constant own index v)) (hdg : decode cc pc = .ok (.ldc_w index, 3)) (kk : zJ X nL I Q w k n lv (pc + 3) (.int v :: st)) : zJ X nL I Q w k n lv pc st := by
  intro H locs ls hI hL
  exact lv_ldcw B.1 B.2.1 B.2.2.2.1 (zts B i hc) hdg (kk H locs ls hI hL)
theorem z_lvc (h : lv = lv') (kk : zJ X nL I Q w k n lv' pc st) : zJ X nL I Q w k n lv pc st := h ▸ kk
theorem z_ifN_eq (B : zB X own cc nL Ts rm D tys I) {a : Nat} {off : Int} (tgt : Nat) (hdg : decode cc pc = .ok (.ifCond .eq off, 3)) (ht : (pc : Int) + off = (tgt : Int)) (ha : a < 2 ^ 31) (kt : a = 0 → zJ X nL I Q w k n lv tgt st) (kf : 0 < a → zJ X nL I Q w k n lv (pc + 3) st) : zJ X nL I Q w k n lv pc (.int (nI a) :: st) := by
  intro H locs ls hI hL
  exact lv_if_eq B.1 B.2.1 hdg ht (fun h => kt ((nI_eq ha (by decide)).mp h) H locs ls hI hL) (fun h => kf (Nat.pos_of_ne_zero (fun e => h (e ▸ rfl))) H locs ls hI hL)
theorem z_ifN_ne (B : zB X own cc nL Ts rm D tys I) {a : Nat} {off : Int} (tgt : Nat) (hdg : decode cc pc = .ok (.ifCond .ne off, 3)) (ht : (pc : Int) + off = (tgt : Int)) (ha : a < 2 ^ 31) (kt : 0 < a → zJ X nL I Q w k n lv tgt st) (kf : a = 0 → zJ X nL I Q w k n lv (pc + 3) st) : zJ X nL I Q w k n lv pc (.int (nI a) :: st) := by
  intro H locs ls hI hL
  exact lv_if_ne B.1 B.2.1 hdg ht (fun h => kt (Nat.pos_of_ne_zero (fun e => h (e ▸ rfl))) H locs ls hI hL) (fun h => kf ((nI_eq ha (by decide)).mp h) H locs ls hI hL)
theorem z_ifN_gt (B : zB X own cc nL Ts rm D tys I) {a : Nat} {off : Int} (tgt : Nat) (hdg : decode cc pc = .ok (.ifCond .gt off, 3)) (ht : (pc : Int) + off = (tgt : Int)) (ha : a < 2 ^ 31) (kt : 0 < a → zJ X nL I Q w k n lv tgt st) (kf : a = 0 → zJ X nL I Q w k n lv (pc + 3) st) : zJ X nL I Q w k n lv pc (.int (nI a) :: st) := by
  intro H locs ls hI hL
  exact lv_if_gt B.1 B.2.1 hdg ht (fun h => kt (Nat.pos_of_ne_zero (fun e => absurd h (e ▸ (by decide)))) H locs ls hI hL) (fun h => kf (Nat.eq_zero_of_not_pos (fun e => h ((nI_ltI (by decide) ha).mpr e))) H locs ls hI hL)
theorem z_ifN_le (B : zB X own cc nL Ts rm D tys I) {a : Nat} {off : Int} (tgt : Nat) (hdg : decode cc pc = .ok (.ifCond .le off, 3)) (ht : (pc : Int) + off = (tgt : Int)) (ha : a < 2 ^ 31) (kt : a = 0 → zJ X nL I Q w k n lv tgt st) (kf : 0 < a → zJ X nL I Q w k n lv (pc + 3) st) : zJ X nL I Q w k n lv pc (.int (nI a) :: st) := by
  intro H locs ls hI hL
  exact lv_if_le B.1 B.2.1 hdg ht (fun h => kt (Nat.eq_zero_of_not_pos (fun e => (nI_nle e ha) h)) H locs ls hI hL) (fun h => kf (Nat.pos_of_ne_zero (fun e => h (e ▸ (by decide)))) H locs ls hI hL)
end ZR
section ZM
variable {X : zX} {own : String} {cc : ByteArray} {nL : Nat} {Ts : List Cond} {rm : Room} {D : va_G} {tys : List (ClassId × FieldType)} {A : Nat → Prop} {Q : State → Prop} {w : va_W} {k n : Nat} {lv lv' : List (Nat × Value)} {pc : Nat} {st : List Value}
theorem z_put (B : zB X own cc nL Ts rm D tys (zI1 D A (zs X))) {ref C : String} {T : u_T} {N ci index a : Nat} {fs : List Value} {v : Value} {w' : va_W} (q f i : Nat) (hF : zF Ts C T N) (ty0 : Nat → FieldType) (hty : ∀ k, k < N → parseFieldDescriptor (T k).2.2.1 = some (ty0 k)) (hnm : ∀ a, a < N → ∀ b, b < N → a ≠ b → (T a).2.1 ≠ (T b).2.1) (he : w[q]? = some (a, .inr (ci, fs))) (hc : vwCl[ci]? = some (C, T, N)) (hf : f < N) (hk : Ts[i]? = some (Cond.fieldLink own index ref (T f).2.1 (T f).2.2.1)) (hsame : (T f).1 = ref) (hfin : (T f).2.2.2 = false) (hn : narrow (ty0 f) v = v) (hfit : fits (ty0 f) v = true) (hl : f < fs.length) (hdg : decode cc pc = .ok (.putfield index, 3)) (hw : w.set q (a, .inr (ci, fs.set f v)) = w') (kk : zJ X nL (zI1 D A (zs X)) Q w' k n lv (pc + 3) st) : zJ X nL (zI1 D A (zs X)) Q w k n lv pc (v :: .ref a :: st) := by
  rintro H locs ls ⟨hP, hD, hS, hA⟩ hL
  exact va_put B.1 B.2.1 B.2.2.2.2.1 hF ty0 hty hnm B.2.2.2.1 B.2.2.2.2.2.1 hP hD hS q he hc f hf (zts B i hk) (fun x h => by rw [← hsame]; exact h) hfin (hty f hf) hn hfit hl hdg (fun H1 locs1 hP1 hD1 hS1 => kk H1 locs1 ls ⟨hw ▸ hP1, hw ▸ hD1, hS1, hA⟩ hL)
theorem z_putF (B : zB X own cc nL Ts rm D tys (zI1 D A (zs X))) {ref C : String} {T : u_T} {N ci index a : Nat} {fs : List Value} {v : Value} {w' : va_W} (q f i : Nat) (hF : zF Ts C T N) (ty0 : Nat → FieldType) (hty : ∀ k, k < N → parseFieldDescriptor (T k).2.2.1 = some (ty0 k)) (hnm : ∀ a, a < N → ∀ b, b < N → a ≠ b → (T a).2.1 ≠ (T b).2.1) (he : w[q]? = some (a, .inr (ci, fs))) (hc : vwCl[ci]? = some (C, T, N)) (hf : f < N) (hk : Ts[i]? = some (Cond.fieldLink own index ref (T f).2.1 (T f).2.2.1)) (hsame : (T f).1 = ref) (hfin : (T f).2.2.2 = true) (hin2 : (zmeth X).name = "<init>") (hdecl : (T f).1 = own) (hn : narrow (ty0 f) v = v) (hfit : fits (ty0 f) v = true) (hl : f < fs.length) (hdg : decode cc pc = .ok (.putfield index, 3)) (hw : w.set q (a, .inr (ci, fs.set f v)) = w') (kk : zJ X nL (zI1 D A (zs X)) Q w' k n lv (pc + 3) st) : zJ X nL (zI1 D A (zs X)) Q w k n lv pc (v :: .ref a :: st) := by
  rintro H locs ls ⟨hP, hD, hS, hA⟩ hL
  exact va_putF B.1 B.2.1 B.2.2.2.2.1 hF ty0 hty hnm B.2.2.2.1 B.2.2.2.2.2.1 hP hD hS q he hc f hf (zts B i hk) (fun x h => by rw [← hsame]; exact h) hfin hin2 hdecl (hty f hf) hn hfit hl hdg (fun H1 locs1 hP1 hD1 hS1 => kk H1 locs1 ls ⟨hw ▸ hP1, hw ▸ hD1, hS1, hA⟩ hL)
theorem z_iast (B : zB X own cc nL Ts rm D tys (zI1 D A (zs X))) {cA : ClassId} {N a : Nat} {g : Nat → Int32} {i : Nat} {x : Int32} {w' : va_W} (q t : Nat) (he : w[q]? = some (a, .inl (cA, N, .inl g))) (ht : tys[t]? = some (cA, .int)) (hi : i < N) (hN : N < 2 ^ 31) (hdg : decode cc pc = .ok (.iastore, 1)) (hw : w.set q (a, .inl (cA, N, .inl (upd g i x))) = w') (kk : zJ X nL (zI1 D A (zs X)) Q w' k n lv (pc + 1) st) : zJ X nL (zI1 D A (zs X)) Q w k n lv pc (.int x :: .int (nI i) :: .ref a :: st) := by
  rintro H locs ls ⟨hP, hD, hS, hA⟩ hL
  exact va_iast B.1 B.2.1 B.2.2.2.2.2.1 hP hD hS q t he ht (vp_in_nI hi hN) hdg (fun H1 locs1 hP1 hD1 hS1 => by rw [nI_clamp (by omega), hw] at hP1 hD1; exact kk H1 locs1 ls ⟨hP1, hD1, hS1, hA⟩ hL)
theorem z_zast (B : zB X own cc nL Ts rm D tys (zI1 D A (zs X))) {cA : ClassId} {N a : Nat} {g : Nat → Int32} {i : Nat} {x : Int32} {w' : va_W} (q t : Nat) (he : w[q]? = some (a, .inl (cA, N, .inl g))) (ht : tys[t]? = some (cA, .boolean)) (hi : i < N) (hN : N < 2 ^ 31) (hx : x = 0 ∨ x = 1) (hdg : decode cc pc = .ok (.bastore, 1)) (hw : w.set q (a, .inl (cA, N, .inl (upd g i x))) = w') (kk : zJ X nL (zI1 D A (zs X)) Q w' k n lv (pc + 1) st) : zJ X nL (zI1 D A (zs X)) Q w k n lv pc (.int x :: .int (nI i) :: .ref a :: st) := by
  rintro H locs ls ⟨hP, hD, hS, hA⟩ hL
  exact va_zast B.1 B.2.1 B.2.2.2.2.2.1 hP hD hS q t he ht (vp_in_nI hi hN) hdg (fun H1 locs1 hP1 hD1 hS1 => by rw [nI_clamp (by omega), nar_v hx, hw] at hP1 hD1; exact kk H1 locs1 ls ⟨hP1, hD1, hS1, hA⟩ hL)
theorem z_last (B : zB X own cc nL Ts rm D tys (zI1 D A (zs X))) {cA : ClassId} {N a : Nat} {g : Nat → Int64} {i : Nat} {x : Int64} {w' : va_W} (q t : Nat) (he : w[q]? = some (a, .inl (cA, N, .inr (.inl g)))) (ht : tys[t]? = some (cA, .long)) (hi : i < N) (hN : N < 2 ^ 31) (hdg : decode cc pc = .ok (.lastore, 1)) (hw : w.set q (a, .inl (cA, N, .inr (.inl (vp_updL g i x)))) = w') (kk : zJ X nL (zI1 D A (zs X)) Q w' k n lv (pc + 1) st) : zJ X nL (zI1 D A (zs X)) Q w k n lv pc (.long x :: .int (nI i) :: .ref a :: st) := by
  rintro H locs ls ⟨hP, hD, hS, hA⟩ hL
  exact va_last B.1 B.2.1 B.2.2.2.2.2.1 hP hD hS q t he ht (vp_in_nI hi hN) hdg (fun H1 locs1 hP1 hD1 hS1 => by rw [nI_clamp (by omega), hw] at hP1 hD1; exact kk H1 locs1 ls ⟨hP1, hD1, hS1, hA⟩ hL)
theorem z_astq (B : zB X own cc nL Ts rm D tys (zI1 D A (zs X))) {cA : ClassId} {r : vw_C} {N a v : Nat} {vs : List Value} {g : Nat → Option Nat} {i : Nat} {w' : va_W} (q t qk ci : Nat) (he : w[q]? = some (a, .inl (cA, N, .inr (.inr (.inr (.inr g)))))) (ht : tys[t]? = some (cA, .object r.1)) (hv : w[qk]? = some (v, .inr (ci, vs))) (hc : vwCl[ci]? = some r) (hi : i < N) (hN : N < 2 ^ 31) (hdg : decode cc pc = .ok (.aastore, 1)) (hw : w.set q (a, .inl (cA, N, .inr (.inr (.inr (.inr (va_up g i (some v))))))) = w') (kk : zJ X nL (zI1 D A (zs X)) Q w' k n lv (pc + 1) st) : zJ X nL (zI1 D A (zs X)) Q w k n lv pc (.ref v :: .int (nI i) :: .ref a :: st) := by
  rintro H locs ls ⟨hP, hD, hS, hA⟩ hL
  exact va_astq B.1 B.2.1 B.2.2.2.2.2.1 hP hD hS q t qk ci he ht hv hc (vp_in_nI hi hN) hdg (fun H1 locs1 hP1 hD1 hS1 => by rw [nI_clamp (by omega), hw] at hP1 hD1; exact kk H1 locs1 ls ⟨hP1, hD1, hS1, hA⟩ hL)
theorem z_astqN (B : zB X own cc nL Ts rm D tys (zI1 D A (zs X))) {cA : ClassId} {C : String} {N a : Nat} {g : Nat → Option Nat} {i : Nat} {w' : va_W} (q t : Nat) (he : w[q]? = some (a, .inl (cA, N, .inr (.inr (.inr (.inr g)))))) (ht : tys[t]? = some (cA, .object C)) (hi : i < N) (hN : N < 2 ^ 31) (hdg : decode cc pc = .ok (.aastore, 1)) (hw : w.set q (a, .inl (cA, N, .inr (.inr (.inr (.inr (va_up g i none)))))) = w') (kk : zJ X nL (zI1 D A (zs X)) Q w' k n lv (pc + 1) st) : zJ X nL (zI1 D A (zs X)) Q w k n lv pc (.null :: .int (nI i) :: .ref a :: st) := by
  rintro H locs ls ⟨hP, hD, hS, hA⟩ hL
  exact va_astqN B.1 B.2.1 B.2.2.2.2.2.1 hP hD hS q t he ht (vp_in_nI hi hN) hdg (fun H1 locs1 hP1 hD1 hS1 => by rw [nI_clamp (by omega), hw] at hP1 hD1; exact kk H1 locs1 ls ⟨hP1, hD1, hS1, hA⟩ hL)
end ZM
/-! contracts -/
def zPure (l : Launch) (y : MethodName) (ws : List Cond) (rm : Room) (D : va_G) (tys : List (ClassId × FieldType)) (w : va_W) (As : List Value) (post : Int32 → Prop) : Prop :=
  Met l y ws rm (va_Pc As (fun U => va_P D vwCl w U.heap ∧ va_K D vwCl tys U)) (vp_Si post) 0 0 (fun _ => False)
def zPureQ (l : Launch) (y : MethodName) (ws : List Cond) (rm : Room) (D : va_G) (tys : List (ClassId × FieldType)) (w : va_W) (As : List Value) (post : Option Nat → Prop) : Prop :=
  Met l y ws rm (va_Pc As (fun U => va_P D vwCl w U.heap ∧ va_K D vwCl tys U)) (va_Sq post) 0 0 (fun _ => False)
def zPre (D : va_G) (tys : List (ClassId × FieldType)) (w : va_W) (sz : Nat) (U : State) : Prop := U.heap.size = sz ∧ va_P D vwCl w U.heap ∧ va_K D vwCl tys U ∧ va_D (fun _ => True) w
def zEnd (D : va_G) (tys : List (ClassId × FieldType)) (w : va_W) (sz : Nat) (w' : va_W) (t : State) : Prop := va_P D vwCl w' t.heap ∧ va_K D vwCl tys t ∧ va_D (va_A w sz) w'
def zMutI (l : Launch) (y : MethodName) (ws : List Cond) (rm : Room) (D : va_G) (tys : List (ClassId × FieldType)) (w : va_W) (As : List Value) (post : Int32 → va_W → Prop) (mc ms : Nat) : Prop :=
  ∀ sz, Met l y ws rm (va_Pc As (zPre D tys w sz)) (va_Qi post (zEnd D tys w sz) (va_A w sz)) mc ms (va_A w sz)
def zMutV (l : Launch) (y : MethodName) (ws : List Cond) (rm : Room) (D : va_G) (tys : List (ClassId × FieldType)) (w : va_W) (As : List Value) (post : va_W → Prop) (mc ms : Nat) : Prop :=
  ∀ sz, Met l y ws rm (va_Pc As (zPre D tys w sz)) (va_Qv post (zEnd D tys w sz) (va_A w sz)) mc ms (va_A w sz)
def zQe (X : zX) (Qc : Array Value → State → Outcome → State → Prop) (mc ms : Nat) (free : Addr → Prop) : State → Prop := MQ (zb X) Qc (za X) (zs X) mc ms free
theorem zPre_moved {D : va_G} {tys : List (ClassId × FieldType)} {w : va_W} {sz : Nat} {U : State} {g : JFrame} {mk : MethodId} {a : Array Value} (h : zPre D tys w sz U) : zPre D tys w sz (U.calling g mk a) :=
  ⟨h.1, h.2.1, va_K.moved (u := U) (U := U.calling g mk a) (Vm.Alike.refl U.vm) h.2.2.1, h.2.2.2⟩
section ZC
variable {l : Launch} {y : MethodName} {ws ws' : List Cond} {rm : Room} {D : va_G} {tys : List (ClassId × FieldType)} {w : va_W} {As : List Value} {cc : ByteArray} {maxL : Nat} {ret : Option FieldType} {own : String}
theorem zPure_of {post : Int32 → Prop} (lv : List (Nat × Value)) (hy : plainName y.cls = true) (ho : y.cls = own) (hw : ws = Cond.code y cc maxL ret :: ws') (hlv : lv_args 0 As = lv) (hn : (lg_sl As).length ≤ maxL)
    (body : ∀ X : zX, zl X = l → zB X own cc maxL ws rm D tys (zI0 D (zs X)) → (zmeth X).sig.returnType = ret → zJ X maxL (zI0 D (zs X)) (zQe X (vp_Si post) 0 0 (fun _ => False)) w 0 0 lv 0 []) : zPure l y ws rm D tys w As post := by
  refine Met.ofW (cc := cc) (maxL := maxL) (ret := ret) hy hw ?_
  intro p e s m args below meth c s₁ B hml hv
  obtain ⟨rfl, hP, hK⟩ := hv
  rw [lg_entry_eq]
  have h := body (p, l, e, (headSpec ws rm).room, s, m, As.toArray, below, meth, c) rfl ⟨B.exec, B.bytes, hml, ho ▸ findClass_of_methodNamed B.named, atoms_spec (ws := ws) B.pre, hK, fun w H locs h => h.1, rfl, B.notSynchronized⟩ B.returns
  exact h s.heap [] _ ⟨hP, rfl, rfl⟩ (hlv ▸ lv_entry As hn)
theorem zPureQ_of {post : Option Nat → Prop} (lv : List (Nat × Value)) (hy : plainName y.cls = true) (ho : y.cls = own) (hw : ws = Cond.code y cc maxL ret :: ws') (hlv : lv_args 0 As = lv) (hn : (lg_sl As).length ≤ maxL)
    (body : ∀ X : zX, zl X = l → zB X own cc maxL ws rm D tys (zI0 D (zs X)) → (zmeth X).sig.returnType = ret → zJ X maxL (zI0 D (zs X)) (zQe X (va_Sq post) 0 0 (fun _ => False)) w 0 0 lv 0 []) : zPureQ l y ws rm D tys w As post := by
  refine Met.ofW (cc := cc) (maxL := maxL) (ret := ret) hy hw ?_
  intro p e s m args below meth c s₁ B hml hv
  obtain ⟨rfl, hP, hK⟩ := hv
  rw [lg_entry_eq]
  have h := body (p, l, e, (headSpec ws rm).room, s, m, As.toArray, below, meth, c) rfl ⟨B.exec, B.bytes, hml, ho ▸ findClass_of_methodNamed B.named, atoms_spec (ws := ws) B.pre, hK, fun w H locs h => h.1, rfl, B.notSynchronized⟩ B.returns
  exact h s.heap [] _ ⟨hP, rfl, rfl⟩ (hlv ▸ lv_entry As hn)
theorem zMutI_of {post : Int32 → va_W → Prop} {mc ms : Nat} (lv : List (Nat × Value)) (hy : plainName y.cls = true) (ho : y.cls = own) (hw : ws = Cond.code y cc maxL ret :: ws') (hlv : lv_args 0 As = lv) (hn : (lg_sl As).length ≤ maxL)
    (body : ∀ (X : zX) (A : Nat → Prop), A = va_A w (zs X).heap.size → zl X = l → zB X own cc maxL ws rm D tys (zI1 D A (zs X)) → (zmeth X).sig.returnType = ret → (zmeth X).name = y.name → zJ X maxL (zI1 D A (zs X)) (zQe X (va_Qi post (zEnd D tys w (zs X).heap.size) A) mc ms A) w 0 0 lv 0 []) : zMutI l y ws rm D tys w As post mc ms := by
  intro sz
  refine Met.ofW (cc := cc) (maxL := maxL) (ret := ret) hy hw ?_
  intro p e s m args below meth c s₁ B hml hv
  obtain ⟨rfl, rfl, hP, hK, hD⟩ := hv
  rw [lg_entry_eq]
  have h := body (p, l, e, (headSpec ws rm).room, s, m, As.toArray, below, meth, c) _ rfl rfl ⟨B.exec, B.bytes, hml, ho ▸ findClass_of_methodNamed B.named, atoms_spec (ws := ws) B.pre, hK, fun w H locs h => h.1, rfl, B.notSynchronized⟩ B.returns (name_of_methodNamed B.named B.method).1
  exact h s.heap [] _ ⟨hP, hD.self, va_S.rf, fun q h => Or.inr h⟩ (hlv ▸ lv_entry As hn)
theorem zMutV_of {post : va_W → Prop} {mc ms : Nat} (lv : List (Nat × Value)) (hy : plainName y.cls = true) (ho : y.cls = own) (hw : ws = Cond.code y cc maxL ret :: ws') (hlv : lv_args 0 As = lv) (hn : (lg_sl As).length ≤ maxL)
    (body : ∀ (X : zX) (A : Nat → Prop), A = va_A w (zs X).heap.size → zl X = l → zB X own cc maxL ws rm D tys (zI1 D A (zs X)) → (zmeth X).sig.returnType = ret → (zmeth X).name = y.name → zJ X maxL (zI1 D A (zs X)) (zQe X (va_Qv post (zEnd D tys w (zs X).heap.size) A) mc ms A) w 0 0 lv 0 []) : zMutV l y ws rm D tys w As post mc ms := by
  intro sz
  refine Met.ofW (cc := cc) (maxL := maxL) (ret := ret) hy hw ?_
  intro p e s m args below meth c s₁ B hml hv
  obtain ⟨rfl, rfl, hP, hK, hD⟩ := hv
  rw [lg_entry_eq]
  have h := body (p, l, e, (headSpec ws rm).room, s, m, As.toArray, below, meth, c) _ rfl rfl ⟨B.exec, B.bytes, hml, ho ▸ findClass_of_methodNamed B.named, atoms_spec (ws := ws) B.pre, hK, fun w H locs h => h.1, rfl, B.notSynchronized⟩ B.returns (name_of_methodNamed B.named B.method).1
  exact h s.heap [] _ ⟨hP, hD.self, va_S.rf, fun q h => Or.inr h⟩ (hlv ▸ lv_entry As hn)
end ZC
section ZE
variable {X : zX} {own : String} {cc : ByteArray} {nL : Nat} {Ts : List Cond} {rm : Room} {D : va_G} {tys : List (ClassId × FieldType)} {w w0 : va_W} {A : Nat → Prop} {k n mc ms : Nat} {lv : List (Nat × Value)} {pc : Nat}
/-- ends -/
theorem z_pret {post : Int32 → Prop} {x : Int32} {ty : FieldType} (B : zB X own cc nL Ts rm D tys (zI0 D (zs X))) (hr : (zmeth X).sig.returnType = some ty) (hdg : decode cc pc = .ok (.ireturn, 1)) (hn : narrow ty (.int x) = .int x) (hp : post x) : zJ X nL (zI0 D (zs X)) (zQe X (vp_Si post) 0 0 (fun _ => False)) w 0 0 lv pc [.int x] := by
  rintro H locs ls ⟨hP, rfl, rfl⟩ hL
  exact W.zret B.1 B.2.1 hr hn (fun t ht hW => ⟨x, rfl, hp, ht⟩) (fun q h => by cases h) hdg B.2.2.2.2.2.2.2.2
theorem z_pretQ {post : Option Nat → Prop} {r : Option Nat} {v : Value} {nm : String} (B : zB X own cc nL Ts rm D tys (zI0 D (zs X))) (hr : (zmeth X).sig.returnType = some (.object nm)) (hdg : decode cc pc = .ok (.areturn, 1)) (hv : v = va_rf r) (hp : post r) : zJ X nL (zI0 D (zs X)) (zQe X (va_Sq post) 0 0 (fun _ => False)) w 0 0 lv pc [v] := by
  rintro H locs ls ⟨hP, rfl, rfl⟩ hL
  subst hv
  exact W.aret B.1 B.2.1 hr (Or.inl ⟨nm, rfl⟩) (by cases r with | none => exact Or.inl rfl | some a => exact Or.inr ⟨a, rfl⟩) (fun t ht hW => ⟨r, rfl, hp, ht⟩) (fun q h => by cases h) hdg B.2.2.2.2.2.2.2.2
theorem z_mret {post : Int32 → va_W → Prop} {x : Int32} {ty : FieldType} (B : zB X own cc nL Ts rm D tys (zI1 D A (zs X))) (hAe : A = va_A w0 (zs X).heap.size) (hr : (zmeth X).sig.returnType = some ty) (hdg : decode cc pc = .ok (.ireturn, 1)) (hn : narrow ty (.int x) = .int x) (h1 : k ≤ mc) (h2 : n ≤ ms) (hp : post x w) : zJ X nL (zI1 D A (zs X)) (zQe X (va_Qi post (zEnd D tys w0 (zs X).heap.size) A) mc ms A) w k n lv pc [.int x] := by
  rintro H locs ls ⟨hP, hD, hS, hA⟩ hL
  refine W.widen h1 h2 ?_
  exact W.zret B.1 B.2.1 hr hn (fun t ht hW => ⟨⟨x, w, rfl, hp, by rw [ht]; exact hP, va_K.moved hW.alike B.2.2.2.2.2.1, hAe ▸ hD⟩, hS.F ht⟩) hS.2.2 hdg B.2.2.2.2.2.2.2.2
theorem z_vret {post : va_W → Prop} (B : zB X own cc nL Ts rm D tys (zI1 D A (zs X))) (hAe : A = va_A w0 (zs X).heap.size) (hr : (zmeth X).sig.returnType = none) (hdg : decode cc pc = .ok (.return_, 1)) (h1 : k ≤ mc) (h2 : n ≤ ms) (hp : post w) : zJ X nL (zI1 D A (zs X)) (zQe X (va_Qv post (zEnd D tys w0 (zs X).heap.size) A) mc ms A) w k n lv pc [] := by
  rintro H locs ls ⟨hP, hD, hS, hA⟩ hL
  refine W.widen h1 h2 ?_
  exact W.vret B.1 B.2.1 hr (fun t ht hW => ⟨⟨w, rfl, hp, by rw [ht]; exact hP, va_K.moved hW.alike B.2.2.2.2.2.1, hAe ▸ hD⟩, hS.F ht⟩) hS.2.2 hdg B.2.2.2.2.2.2.2.2
end ZE
section ZK
variable {X : zX} {l : Launch} {own : String} {cc : ByteArray} {nL : Nat} {Ts : List Cond} {rm : Room} {D : va_G} {tys : List (ClassId × FieldType)} {I : zII} {Q : State → Prop} {w wc : va_W} {k n : Nat} {lv : List (Nat × Value)} {pc : Nat} {st st0 : List Value} {A : Nat → Prop}
variable {y : MethodName} {ws ws' : List Cond} {rm' : Room} {bytes : ByteArray} {maxL index : Nat} {ret : Option FieldType} {C : String} {T : u_T} {N ci b : Nat} {fs : List Value} {As : List Value}
/-- room for a call -/
abbrev zRm (rm rm' : Room) (maxL : Nat) : Prop := rm'.frames + 1 ≤ rm.frames ∧ 8 + (maxL + 11) + rm'.locals ≤ rm.locals
abbrev zNm (y : MethodName) (C : String) (na : Nat) : Prop := y.cls = C ∧ y.cls ≠ "java/lang/invoke/MethodHandle" ∧ y.cls ≠ "java/lang/invoke/VarHandle" ∧ (parseMethodDescriptor y.desc).map (fun d => d.parameters.length) = some na
theorem z_sub {w wc : va_W} {D : va_G} {H : Heap} (hP : va_P D vwCl w H) (h : ∀ (k : Nat) (q : Nat × va_E), wc[k]? = some q → q ∈ w) : va_P D vwCl wc H := by
  intro k q hk
  obtain ⟨i, hi⟩ := List.getElem?_of_mem (h k q hk)
  exact hP i q hi
theorem z_blind {D : va_G} {tys : List (ClassId × FieldType)} {w : va_W} {As : List Value} : FrameBlind (va_Pc As (fun U => va_P D vwCl w U.heap ∧ va_K D vwCl tys U)) := fun a U g mk q => ⟨q.1, q.2.1, va_K.moved (u := U) (U := U.calling g mk a) (Vm.Alike.refl U.vm) q.2.2⟩
theorem z_blind2 {D : va_G} {tys : List (ClassId × FieldType)} {w : va_W} {As : List Value} {sz : Nat} : FrameBlind (va_Pc As (zPre D tys w sz)) := fun a U g mk q => ⟨q.1, zPre_moved q.2⟩
/-- a call of a reader, virtual; the callee's world wc is the caller's own or a part of it -/
theorem z_callP {post : Int32 → Prop} (B : zB X own cc nL Ts rm D tys I) (hl : zl X = l) (hM : zPure l y ws rm' D tys wc (.ref b :: As) post) (hG : GoodIn Ts (wsV own index C y ws)) (hw : ws = Cond.code y bytes maxL ret :: ws') (hc0 : rm'.cells = 0 ∧ rm'.slots = 0) (hd : zNm y C As.length) (hR : zRm rm rm' maxL)
    (hsub : ∀ H, va_P D vwCl w H → va_P D vwCl wc H) (q : Nat) (hr : wc[q]? = some (b, .inr (ci, fs))) (hC : vwCl[ci]? = some (C, T, N)) (hst : st0 = As.reverse ++ .ref b :: st) (hcat : (st.map fun v => v.category).sum ≤ 8) (hdg : decode cc pc = .ok (.invokevirtual index, 3))
    (hk : k ≤ rm.cells) (hn : n ≤ rm.slots) (kk : ∀ r : Int32, post r → zJ X nL I Q w k n lv (pc + 3) (.int r :: st)) : zJ X nL I Q w k n lv pc st0 := by
  intro H locs ls hI hL
  subst hl
  have hP := B.2.2.2.2.2.2.1 w H locs hI
  exact vp_callSi (W.runV ⟨B.1, B.2.1, B.2.2.1, B.2.2.2.1, B.2.2.2.2.1⟩ hM (cwV As.length B.2.2.2.2.1 hG hw hc0.1 hc0.2 hd (B.2.2.2.2.2.2.2.1 ▸ hR))
    ⟨z_blind, va_recv B.2.2.2.2.2.1 (hsub H hP) hC hr, fun U hU hW => ⟨rfl, by rw [hU]; exact hsub H hP, va_K.moved hW.alike B.2.2.2.2.2.1⟩⟩ rfl rfl hL.1 hst (lv_room hcat) hdg ⟨B.2.2.2.2.2.2.2.1 ▸ hk, B.2.2.2.2.2.2.2.1 ▸ hn⟩) (fun r hr => kk r hr H locs ls hI hL)
theorem z_callPQ {post : Option Nat → Prop} (B : zB X own cc nL Ts rm D tys I) (hl : zl X = l) (hM : zPureQ l y ws rm' D tys wc (.ref b :: As) post) (hG : GoodIn Ts (wsV own index C y ws)) (hw : ws = Cond.code y bytes maxL ret :: ws') (hc0 : rm'.cells = 0 ∧ rm'.slots = 0) (hd : zNm y C As.length) (hR : zRm rm rm' maxL)
    (hsub : ∀ H, va_P D vwCl w H → va_P D vwCl wc H) (q : Nat) (hr : wc[q]? = some (b, .inr (ci, fs))) (hC : vwCl[ci]? = some (C, T, N)) (hst : st0 = As.reverse ++ .ref b :: st) (hcat : (st.map fun v => v.category).sum ≤ 8) (hdg : decode cc pc = .ok (.invokevirtual index, 3))
    (hk : k ≤ rm.cells) (hn : n ≤ rm.slots) (kk : ∀ r : Option Nat, post r → zJ X nL I Q w k n lv (pc + 3) (va_rf r :: st)) : zJ X nL I Q w k n lv pc st0 := by
  intro H locs ls hI hL
  subst hl
  have hP := B.2.2.2.2.2.2.1 w H locs hI
  exact va_csq (W.runV ⟨B.1, B.2.1, B.2.2.1, B.2.2.2.1, B.2.2.2.2.1⟩ hM (cwV As.length B.2.2.2.2.1 hG hw hc0.1 hc0.2 hd (B.2.2.2.2.2.2.2.1 ▸ hR))
    ⟨z_blind, va_recv B.2.2.2.2.2.1 (hsub H hP) hC hr, fun U hU hW => ⟨rfl, by rw [hU]; exact hsub H hP, va_K.moved hW.alike B.2.2.2.2.2.1⟩⟩ rfl rfl hL.1 hst (lv_room hcat) hdg ⟨B.2.2.2.2.2.2.2.1 ▸ hk, B.2.2.2.2.2.2.2.1 ▸ hn⟩) (fun r hr => kk r hr H locs ls hI hL)
/-- a call of a static reader -/
theorem z_callS {post : Int32 → Prop} (B : zB X own cc nL Ts rm D tys I) (hl : zl X = l) (hM : zPure l y ws rm' D tys wc As post) (hG : GoodIn Ts (wsS own index y ws)) (hw : ws = Cond.code y bytes maxL ret :: ws') (hc0 : rm'.cells = 0 ∧ rm'.slots = 0) (hd : zNm y own As.length) (hR : zRm rm rm' maxL)
    (hsub : ∀ H, va_P D vwCl w H → va_P D vwCl wc H) (hst : st0 = As.reverse ++ st) (hcat : (st.map fun v => v.category).sum ≤ 8) (hdg : decode cc pc = .ok (.invokestatic index, 3))
    (hk : k ≤ rm.cells) (hn : n ≤ rm.slots) (kk : ∀ r : Int32, post r → zJ X nL I Q w k n lv (pc + 3) (.int r :: st)) : zJ X nL I Q w k n lv pc st0 := by
  intro H locs ls hI hL
  subst hl
  have hP := B.2.2.2.2.2.2.1 w H locs hI
  exact vp_callSi (W.runS ⟨B.1, B.2.1, B.2.2.1, B.2.2.2.1, B.2.2.2.2.1⟩ hM (cwS As.length B.2.2.2.2.1 hG hw hc0.1 hc0.2 hd (B.2.2.2.2.2.2.2.1 ▸ hR))
    ⟨z_blind, fun U hU hW => ⟨rfl, by rw [hU]; exact hsub H hP, va_K.moved hW.alike B.2.2.2.2.2.1⟩⟩ rfl rfl hL.1 hst (lv_room hcat) hdg ⟨B.2.2.2.2.2.2.2.1 ▸ hk, B.2.2.2.2.2.2.2.1 ▸ hn⟩) (fun r hr => kk r hr H locs ls hI hL)
/-- which cells a callee on this world may write: the caller's -/
theorem z_freeA {A0 : Nat → Prop} {w : va_W} {H0 H : Heap} {locs : List Loc} (hD : va_D A0 w) (hS : va_S A0 H0 H locs) (hA : ∀ q, H0.size ≤ q → A0 q) : ∀ q, va_A w H.size q → A0 q := by
  rintro q (⟨k, e, h⟩ | h)
  · exact hD.2 k _ h
  · exact hA q (Nat.le_trans hS.1 h)
/-- a call of a writer on the whole world -/
theorem z_callM {post : Int32 → va_W → Prop} {mc ms k' n' : Nat} (B : zB X own cc nL Ts rm D tys (zI1 D A (zs X))) (hl : zl X = l) (hM : zMutI l y ws rm' D tys w (.ref b :: As) post mc ms) (hG : GoodIn Ts (wsV own index C y ws)) (hw : ws = Cond.code y bytes maxL ret :: ws') (hc0 : rm'.cells = mc ∧ rm'.slots = ms) (hd : zNm y C As.length) (hR : zRm rm rm' maxL)
    (q : Nat) (hr : w[q]? = some (b, .inr (ci, fs))) (hC : vwCl[ci]? = some (C, T, N)) (hst : st0 = As.reverse ++ .ref b :: st) (hcat : (st.map fun v => v.category).sum ≤ 8) (hdg : decode cc pc = .ok (.invokevirtual index, 3))
    (hk : k + mc = k') (hn : n + ms = n') (hk' : k' ≤ rm.cells) (hn' : n' ≤ rm.slots) (kk : ∀ (r : Int32) (w' : va_W), post r w' → zJ X nL (zI1 D A (zs X)) Q w' k' n' lv (pc + 3) (.int r :: st)) : zJ X nL (zI1 D A (zs X)) Q w k n lv pc st0 := by
  rintro H locs ls ⟨hP, hD, hS, hA⟩ hL
  subst hl; subst hk; subst hn
  have hF := z_freeA hD hS hA
  refine va_calli (va_runV ⟨B.1, B.2.1, B.2.2.1, B.2.2.2.1, B.2.2.2.2.1⟩ (hM H.size) (cwV As.length B.2.2.2.2.1 hG hw hc0.1 hc0.2 hd (B.2.2.2.2.2.2.2.1 ▸ hR))
    ⟨z_blind2, va_recv B.2.2.2.2.2.1 hP hC hr, fun U hU hW => ⟨rfl, by rw [hU], by rw [hU]; exact hP, va_K.moved hW.alike B.2.2.2.2.2.1, hD.weaken (fun _ _ _ _ => trivial)⟩⟩ rfl rfl hL.1 hst (lv_room hcat) hdg ⟨B.2.2.2.2.2.2.2.1 ▸ hk', B.2.2.2.2.2.2.2.1 ▸ hn'⟩) hS (fun q _ h => hF q h) hF ?_
  intro r u t H1 locs1 ht hvm hpost hB hz hk1 hS1
  obtain ⟨hP1, hK1, hD1⟩ := hB
  rw [ht] at hP1
  exact kk r u hpost H1 locs1 ls ⟨hP1, hD1.weaken (fun _ q _ h => hF q.1 h), hS1, hA⟩ hL
theorem z_callMV {post : va_W → Prop} {mc ms k' n' : Nat} (B : zB X own cc nL Ts rm D tys (zI1 D A (zs X))) (hl : zl X = l) (hM : zMutV l y ws rm' D tys w (.ref b :: As) post mc ms) (hG : GoodIn Ts (wsV own index C y ws)) (hw : ws = Cond.code y bytes maxL ret :: ws') (hc0 : rm'.cells = mc ∧ rm'.slots = ms) (hd : zNm y C As.length) (hR : zRm rm rm' maxL)
    (q : Nat) (hr : w[q]? = some (b, .inr (ci, fs))) (hC : vwCl[ci]? = some (C, T, N)) (hst : st0 = As.reverse ++ .ref b :: st) (hcat : (st.map fun v => v.category).sum ≤ 8) (hdg : decode cc pc = .ok (.invokevirtual index, 3))
    (hk : k + mc = k') (hn : n + ms = n') (hk' : k' ≤ rm.cells) (hn' : n' ≤ rm.slots) (kk : ∀ (w' : va_W), post w' → zJ X nL (zI1 D A (zs X)) Q w' k' n' lv (pc + 3) st) : zJ X nL (zI1 D A (zs X)) Q w k n lv pc st0 := by
  rintro H locs ls ⟨hP, hD, hS, hA⟩ hL
  subst hl; subst hk; subst hn
  have hF := z_freeA hD hS hA
  refine va_callv (va_runV ⟨B.1, B.2.1, B.2.2.1, B.2.2.2.1, B.2.2.2.2.1⟩ (hM H.size) (cwV As.length B.2.2.2.2.1 hG hw hc0.1 hc0.2 hd (B.2.2.2.2.2.2.2.1 ▸ hR))
    ⟨z_blind2, va_recv B.2.2.2.2.2.1 hP hC hr, fun U hU hW => ⟨rfl, by rw [hU], by rw [hU]; exact hP, va_K.moved hW.alike B.2.2.2.2.2.1, hD.weaken (fun _ _ _ _ => trivial)⟩⟩ rfl rfl hL.1 hst (lv_room hcat) hdg ⟨B.2.2.2.2.2.2.2.1 ▸ hk', B.2.2.2.2.2.2.2.1 ▸ hn'⟩) hS (fun q _ h => hF q h) hF ?_
  intro u t H1 locs1 ht hvm hpost hB hz hk1 hS1
  obtain ⟨hP1, hK1, hD1⟩ := hB
  rw [ht] at hP1
  exact kk u hpost H1 locs1 ls ⟨hP1, hD1.weaken (fun _ q _ h => hF q.1 h), hS1, hA⟩ hL
end ZK
