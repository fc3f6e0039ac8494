section
-- ===== PART A: goes FIRST, ahead of the names: the tables' words, and 'selects' of the private methods out of them =====
/-- a private method of a class that the tables say can be made, by its rows of tables_1 -/
def lw_okq (q : MethodName × Nat) : Prop := (q.1.cls ≠ "java/lang/invoke/MethodHandle" ∧ q.1.cls ≠ "java/lang/invoke/VarHandle") ∧ Cond.instantiable q.1.cls q.2 ∈ tables_1 ∧ Cond.privateMethod q.1 ∈ tables_1 ∧ Cond.instanceMethod q.1 ∈ tables_1
theorem lw_p0 : lw_okq (⟨"java/lang/Throwable", "fillInStackTrace", "(I)Ljava/lang/Throwable;"⟩, 6) := ⟨⟨by decide +kernel, by decide +kernel⟩, List.mem_of_getElem? (i := 291) (by decide +kernel), List.mem_of_getElem? (i := 289) (by decide +kernel), List.mem_of_getElem? (i := 290) (by decide +kernel)⟩
theorem lw_p1 : lw_okq (⟨"LedgerKiln", "needPage", "(I)V"⟩, 6) := ⟨⟨by decide +kernel, by decide +kernel⟩, List.mem_of_getElem? (i := 16) (by decide +kernel), List.mem_of_getElem? (i := 408) (by decide +kernel), List.mem_of_getElem? (i := 409) (by decide +kernel)⟩
theorem lw_p2 : lw_okq (⟨"LedgerKiln", "needRoomForCopy", "()V"⟩, 6) := ⟨⟨by decide +kernel, by decide +kernel⟩, List.mem_of_getElem? (i := 16) (by decide +kernel), List.mem_of_getElem? (i := 469) (by decide +kernel), List.mem_of_getElem? (i := 470) (by decide +kernel)⟩
theorem lw_p3 : lw_okq (⟨"LedgerKiln", "needCopy", "(I)LLedgerKiln$Copy;"⟩, 6) := ⟨⟨by decide +kernel, by decide +kernel⟩, List.mem_of_getElem? (i := 16) (by decide +kernel), List.mem_of_getElem? (i := 529) (by decide +kernel), List.mem_of_getElem? (i := 530) (by decide +kernel)⟩
theorem lw_p4 : lw_okq (⟨"LedgerKiln", "needCase", "(I)V"⟩, 6) := ⟨⟨by decide +kernel, by decide +kernel⟩, List.mem_of_getElem? (i := 16) (by decide +kernel), List.mem_of_getElem? (i := 631) (by decide +kernel), List.mem_of_getElem? (i := 632) (by decide +kernel)⟩
theorem lw_p5 : lw_okq (⟨"LedgerKiln", "needPastDay", "(I)V"⟩, 6) := ⟨⟨by decide +kernel, by decide +kernel⟩, List.mem_of_getElem? (i := 16) (by decide +kernel), List.mem_of_getElem? (i := 752) (by decide +kernel), List.mem_of_getElem? (i := 753) (by decide +kernel)⟩
theorem lw_p6 : lw_okq (⟨"LedgerKiln", "isToldTruly", "(I)Z"⟩, 6) := ⟨⟨by decide +kernel, by decide +kernel⟩, List.mem_of_getElem? (i := 16) (by decide +kernel), List.mem_of_getElem? (i := 776) (by decide +kernel), List.mem_of_getElem? (i := 777) (by decide +kernel)⟩
theorem lw_p7 : lw_okq (⟨"LedgerKilnModel", "refused", "(I)Z"⟩, 30) := ⟨⟨by decide +kernel, by decide +kernel⟩, List.mem_of_getElem? (i := 847) (by decide +kernel), List.mem_of_getElem? (i := 958) (by decide +kernel), List.mem_of_getElem? (i := 959) (by decide +kernel)⟩
theorem lw_p8 : lw_okq (⟨"LedgerKilnModel", "fine", "(I)I"⟩, 30) := ⟨⟨by decide +kernel, by decide +kernel⟩, List.mem_of_getElem? (i := 847) (by decide +kernel), List.mem_of_getElem? (i := 966) (by decide +kernel), List.mem_of_getElem? (i := 967) (by decide +kernel)⟩
theorem lw_p9 : lw_okq (⟨"LedgerKilnModel", "draftSum", "()I"⟩, 30) := ⟨⟨by decide +kernel, by decide +kernel⟩, List.mem_of_getElem? (i := 847) (by decide +kernel), List.mem_of_getElem? (i := 974) (by decide +kernel), List.mem_of_getElem? (i := 975) (by decide +kernel)⟩
theorem lw_p10 : lw_okq (⟨"LedgerKilnModel", "begin", "(I)V"⟩, 30) := ⟨⟨by decide +kernel, by decide +kernel⟩, List.mem_of_getElem? (i := 847) (by decide +kernel), List.mem_of_getElem? (i := 978) (by decide +kernel), List.mem_of_getElem? (i := 979) (by decide +kernel)⟩
theorem lw_p11 : lw_okq (⟨"LedgerKilnModel", "put", "(II)V"⟩, 30) := ⟨⟨by decide +kernel, by decide +kernel⟩, List.mem_of_getElem? (i := 847) (by decide +kernel), List.mem_of_getElem? (i := 982) (by decide +kernel), List.mem_of_getElem? (i := 983) (by decide +kernel)⟩
theorem lw_p12 : lw_okq (⟨"LedgerKilnModel", "isPage", "(I)Z"⟩, 30) := ⟨⟨by decide +kernel, by decide +kernel⟩, List.mem_of_getElem? (i := 847) (by decide +kernel), List.mem_of_getElem? (i := 990) (by decide +kernel), List.mem_of_getElem? (i := 991) (by decide +kernel)⟩
theorem lw_p13 : lw_okq (⟨"LedgerKilnModel", "isTrueInBook", "(I)Z"⟩, 30) := ⟨⟨by decide +kernel, by decide +kernel⟩, List.mem_of_getElem? (i := 847) (by decide +kernel), List.mem_of_getElem? (i := 994) (by decide +kernel), List.mem_of_getElem? (i := 995) (by decide +kernel)⟩
theorem lw_p14 : lw_okq (⟨"LedgerKilnModel", "burnt", "()I"⟩, 30) := ⟨⟨by decide +kernel, by decide +kernel⟩, List.mem_of_getElem? (i := 847) (by decide +kernel), List.mem_of_getElem? (i := 1014) (by decide +kernel), List.mem_of_getElem? (i := 1015) (by decide +kernel)⟩
theorem lw_p15 : lw_okq (⟨"LedgerKilnModel", "makeCopy", "(II)I"⟩, 30) := ⟨⟨by decide +kernel, by decide +kernel⟩, List.mem_of_getElem? (i := 847) (by decide +kernel), List.mem_of_getElem? (i := 1018) (by decide +kernel), List.mem_of_getElem? (i := 1019) (by decide +kernel)⟩
def lw_privs_1 : List (MethodName × Nat) := [(⟨"java/lang/Throwable", "fillInStackTrace", "(I)Ljava/lang/Throwable;"⟩, 6), (⟨"LedgerKiln", "needPage", "(I)V"⟩, 6), (⟨"LedgerKiln", "needRoomForCopy", "()V"⟩, 6), (⟨"LedgerKiln", "needCopy", "(I)LLedgerKiln$Copy;"⟩, 6), (⟨"LedgerKiln", "needCase", "(I)V"⟩, 6), (⟨"LedgerKiln", "needPastDay", "(I)V"⟩, 6), (⟨"LedgerKiln", "isToldTruly", "(I)Z"⟩, 6), (⟨"LedgerKilnModel", "refused", "(I)Z"⟩, 30), (⟨"LedgerKilnModel", "fine", "(I)I"⟩, 30), (⟨"LedgerKilnModel", "draftSum", "()I"⟩, 30), (⟨"LedgerKilnModel", "begin", "(I)V"⟩, 30), (⟨"LedgerKilnModel", "put", "(II)V"⟩, 30), (⟨"LedgerKilnModel", "isPage", "(I)Z"⟩, 30), (⟨"LedgerKilnModel", "isTrueInBook", "(I)Z"⟩, 30), (⟨"LedgerKilnModel", "burnt", "()I"⟩, 30), (⟨"LedgerKilnModel", "makeCopy", "(II)I"⟩, 30)]
theorem lw_r1 : ∀ q ∈ lw_privs_1, lw_okq q := List.forall_mem_cons.mpr ⟨lw_p0, List.forall_mem_cons.mpr ⟨lw_p1, List.forall_mem_cons.mpr ⟨lw_p2, List.forall_mem_cons.mpr ⟨lw_p3, List.forall_mem_cons.mpr ⟨lw_p4, List.forall_mem_cons.mpr ⟨lw_p5, List.forall_mem_cons.mpr ⟨lw_p6, List.forall_mem_cons.mpr ⟨lw_p7, List.forall_mem_cons.mpr ⟨lw_p8, List.forall_mem_cons.mpr ⟨lw_p9, List.forall_mem_cons.mpr ⟨lw_p10, List.forall_mem_cons.mpr ⟨lw_p11, List.forall_mem_cons.mpr ⟨lw_p12, List.forall_mem_cons.mpr ⟨lw_p13, List.forall_mem_cons.mpr ⟨lw_p14, List.forall_mem_cons.mpr ⟨lw_p15, fun _ h => absurd h List.not_mem_nil⟩⟩⟩⟩⟩⟩⟩⟩⟩⟩⟩⟩⟩⟩⟩⟩
theorem lw_p16 : lw_okq (⟨"LedgerKilnModel", "isCopy", "(I)Z"⟩, 30) := ⟨⟨by decide +kernel, by decide +kernel⟩, List.mem_of_getElem? (i := 847) (by decide +kernel), List.mem_of_getElem? (i := 1026) (by decide +kernel), List.mem_of_getElem? (i := 1027) (by decide +kernel)⟩
theorem lw_p17 : lw_okq (⟨"LedgerKilnModel", "standsIn", "(II)Z"⟩, 30) := ⟨⟨by decide +kernel, by decide +kernel⟩, List.mem_of_getElem? (i := 847) (by decide +kernel), List.mem_of_getElem? (i := 1034) (by decide +kernel), List.mem_of_getElem? (i := 1035) (by decide +kernel)⟩
theorem lw_p18 : lw_okq (⟨"LedgerKilnModel", "has", "(II)Z"⟩, 30) := ⟨⟨by decide +kernel, by decide +kernel⟩, List.mem_of_getElem? (i := 847) (by decide +kernel), List.mem_of_getElem? (i := 1038) (by decide +kernel), List.mem_of_getElem? (i := 1039) (by decide +kernel)⟩
theorem lw_p19 : lw_okq (⟨"LedgerKilnModel", "areBoth", "(II)Z"⟩, 30) := ⟨⟨by decide +kernel, by decide +kernel⟩, List.mem_of_getElem? (i := 847) (by decide +kernel), List.mem_of_getElem? (i := 1046) (by decide +kernel), List.mem_of_getElem? (i := 1047) (by decide +kernel)⟩
theorem lw_p20 : lw_okq (⟨"LedgerKilnModel", "isBase", "(I)Z"⟩, 30) := ⟨⟨by decide +kernel, by decide +kernel⟩, List.mem_of_getElem? (i := 847) (by decide +kernel), List.mem_of_getElem? (i := 1054) (by decide +kernel), List.mem_of_getElem? (i := 1055) (by decide +kernel)⟩
theorem lw_p21 : lw_okq (⟨"LedgerKilnModel", "holdersOf", "(I)I"⟩, 30) := ⟨⟨by decide +kernel, by decide +kernel⟩, List.mem_of_getElem? (i := 847) (by decide +kernel), List.mem_of_getElem? (i := 1058) (by decide +kernel), List.mem_of_getElem? (i := 1059) (by decide +kernel)⟩
theorem lw_p22 : lw_okq (⟨"LedgerKilnModel", "reaches", "(II)Z"⟩, 30) := ⟨⟨by decide +kernel, by decide +kernel⟩, List.mem_of_getElem? (i := 847) (by decide +kernel), List.mem_of_getElem? (i := 1062) (by decide +kernel), List.mem_of_getElem? (i := 1063) (by decide +kernel)⟩
theorem lw_p23 : lw_okq (⟨"LedgerKilnModel", "copiesThere", "()I"⟩, 30) := ⟨⟨by decide +kernel, by decide +kernel⟩, List.mem_of_getElem? (i := 847) (by decide +kernel), List.mem_of_getElem? (i := 1066) (by decide +kernel), List.mem_of_getElem? (i := 1067) (by decide +kernel)⟩
theorem lw_p24 : lw_okq (⟨"LedgerKilnModel", "isWhole", "(I)Z"⟩, 30) := ⟨⟨by decide +kernel, by decide +kernel⟩, List.mem_of_getElem? (i := 847) (by decide +kernel), List.mem_of_getElem? (i := 1074) (by decide +kernel), List.mem_of_getElem? (i := 1075) (by decide +kernel)⟩
theorem lw_p25 : lw_okq (⟨"LedgerKilnModel", "isTrueIn", "(II)Z"⟩, 30) := ⟨⟨by decide +kernel, by decide +kernel⟩, List.mem_of_getElem? (i := 847) (by decide +kernel), List.mem_of_getElem? (i := 1078) (by decide +kernel), List.mem_of_getElem? (i := 1079) (by decide +kernel)⟩
theorem lw_p26 : lw_okq (⟨"LedgerKilnModel", "isCase", "(I)Z"⟩, 30) := ⟨⟨by decide +kernel, by decide +kernel⟩, List.mem_of_getElem? (i := 847) (by decide +kernel), List.mem_of_getElem? (i := 1090) (by decide +kernel), List.mem_of_getElem? (i := 1091) (by decide +kernel)⟩
theorem lw_p27 : lw_okq (⟨"LedgerKilnModel", "may", "(II)Z"⟩, 30) := ⟨⟨by decide +kernel, by decide +kernel⟩, List.mem_of_getElem? (i := 847) (by decide +kernel), List.mem_of_getElem? (i := 1102) (by decide +kernel), List.mem_of_getElem? (i := 1103) (by decide +kernel)⟩
theorem lw_p28 : lw_okq (⟨"LedgerKilnModel", "noPage", "(I)Z"⟩, 30) := ⟨⟨by decide +kernel, by decide +kernel⟩, List.mem_of_getElem? (i := 847) (by decide +kernel), List.mem_of_getElem? (i := 1118) (by decide +kernel), List.mem_of_getElem? (i := 1119) (by decide +kernel)⟩
theorem lw_p29 : lw_okq (⟨"LedgerKilnModel", "markOf", "(I)I"⟩, 30) := ⟨⟨by decide +kernel, by decide +kernel⟩, List.mem_of_getElem? (i := 847) (by decide +kernel), List.mem_of_getElem? (i := 1134) (by decide +kernel), List.mem_of_getElem? (i := 1135) (by decide +kernel)⟩
theorem lw_p30 : lw_okq (⟨"LedgerKilnModel", "sumOf", "(IIZ)I"⟩, 30) := ⟨⟨by decide +kernel, by decide +kernel⟩, List.mem_of_getElem? (i := 847) (by decide +kernel), List.mem_of_getElem? (i := 1154) (by decide +kernel), List.mem_of_getElem? (i := 1155) (by decide +kernel)⟩
theorem lw_p31 : lw_okq (⟨"LedgerKilnModel", "noBalance", "(II)Z"⟩, 30) := ⟨⟨by decide +kernel, by decide +kernel⟩, List.mem_of_getElem? (i := 847) (by decide +kernel), List.mem_of_getElem? (i := 1162) (by decide +kernel), List.mem_of_getElem? (i := 1163) (by decide +kernel)⟩
def lw_privs_2 : List (MethodName × Nat) := [(⟨"LedgerKilnModel", "isCopy", "(I)Z"⟩, 30), (⟨"LedgerKilnModel", "standsIn", "(II)Z"⟩, 30), (⟨"LedgerKilnModel", "has", "(II)Z"⟩, 30), (⟨"LedgerKilnModel", "areBoth", "(II)Z"⟩, 30), (⟨"LedgerKilnModel", "isBase", "(I)Z"⟩, 30), (⟨"LedgerKilnModel", "holdersOf", "(I)I"⟩, 30), (⟨"LedgerKilnModel", "reaches", "(II)Z"⟩, 30), (⟨"LedgerKilnModel", "copiesThere", "()I"⟩, 30), (⟨"LedgerKilnModel", "isWhole", "(I)Z"⟩, 30), (⟨"LedgerKilnModel", "isTrueIn", "(II)Z"⟩, 30), (⟨"LedgerKilnModel", "isCase", "(I)Z"⟩, 30), (⟨"LedgerKilnModel", "may", "(II)Z"⟩, 30), (⟨"LedgerKilnModel", "noPage", "(I)Z"⟩, 30), (⟨"LedgerKilnModel", "markOf", "(I)I"⟩, 30), (⟨"LedgerKilnModel", "sumOf", "(IIZ)I"⟩, 30), (⟨"LedgerKilnModel", "noBalance", "(II)Z"⟩, 30)]
theorem lw_r2 : ∀ q ∈ lw_privs_2, lw_okq q := List.forall_mem_cons.mpr ⟨lw_p16, List.forall_mem_cons.mpr ⟨lw_p17, List.forall_mem_cons.mpr ⟨lw_p18, List.forall_mem_cons.mpr ⟨lw_p19, List.forall_mem_cons.mpr ⟨lw_p20, List.forall_mem_cons.mpr ⟨lw_p21, List.forall_mem_cons.mpr ⟨lw_p22, List.forall_mem_cons.mpr ⟨lw_p23, List.forall_mem_cons.mpr ⟨lw_p24, List.forall_mem_cons.mpr ⟨lw_p25, List.forall_mem_cons.mpr ⟨lw_p26, List.forall_mem_cons.mpr ⟨lw_p27, List.forall_mem_cons.mpr ⟨lw_p28, List.forall_mem_cons.mpr ⟨lw_p29, List.forall_mem_cons.mpr ⟨lw_p30, List.forall_mem_cons.mpr ⟨lw_p31, fun _ h => absurd h List.not_mem_nil⟩⟩⟩⟩⟩⟩⟩⟩⟩⟩⟩⟩⟩⟩⟩⟩
theorem lw_p32 : lw_okq (⟨"LedgerKilnModel", "balanceOf", "(II)I"⟩, 30) := ⟨⟨by decide +kernel, by decide +kernel⟩, List.mem_of_getElem? (i := 847) (by decide +kernel), List.mem_of_getElem? (i := 1166) (by decide +kernel), List.mem_of_getElem? (i := 1167) (by decide +kernel)⟩
theorem lw_p33 : lw_okq (⟨"LedgerKilnModel", "isFound", "(IZ)Z"⟩, 30) := ⟨⟨by decide +kernel, by decide +kernel⟩, List.mem_of_getElem? (i := 847) (by decide +kernel), List.mem_of_getElem? (i := 1178) (by decide +kernel), List.mem_of_getElem? (i := 1179) (by decide +kernel)⟩
theorem lw_p34 : lw_okq (⟨"LedgerKilnModel", "noCopy", "(I)Z"⟩, 30) := ⟨⟨by decide +kernel, by decide +kernel⟩, List.mem_of_getElem? (i := 847) (by decide +kernel), List.mem_of_getElem? (i := 1190) (by decide +kernel), List.mem_of_getElem? (i := 1191) (by decide +kernel)⟩
theorem lw_p35 : lw_okq (⟨"LedgerKilnModel", "noCase", "(I)Z"⟩, 30) := ⟨⟨by decide +kernel, by decide +kernel⟩, List.mem_of_getElem? (i := 847) (by decide +kernel), List.mem_of_getElem? (i := 1226) (by decide +kernel), List.mem_of_getElem? (i := 1227) (by decide +kernel)⟩
def lw_privs_3 : List (MethodName × Nat) := [(⟨"LedgerKilnModel", "balanceOf", "(II)I"⟩, 30), (⟨"LedgerKilnModel", "isFound", "(IZ)Z"⟩, 30), (⟨"LedgerKilnModel", "noCopy", "(I)Z"⟩, 30), (⟨"LedgerKilnModel", "noCase", "(I)Z"⟩, 30)]
theorem lw_r3 : ∀ q ∈ lw_privs_3, lw_okq q := List.forall_mem_cons.mpr ⟨lw_p32, List.forall_mem_cons.mpr ⟨lw_p33, List.forall_mem_cons.mpr ⟨lw_p34, List.forall_mem_cons.mpr ⟨lw_p35, fun _ h => absurd h List.not_mem_nil⟩⟩⟩⟩
def lw_privs : List (MethodName × Nat) := lw_privs_1 ++ (lw_privs_2 ++ (lw_privs_3))
def lw_tbl : List Cond := k2_sels lw_privs ++ tables_1
theorem lw_privs_ok : ∀ q ∈ lw_privs, lw_okq q := by
  show ∀ q ∈ lw_privs_1 ++ (lw_privs_2 ++ (lw_privs_3)), lw_okq q
  exact List.forall_mem_append.mpr ⟨lw_r1, List.forall_mem_append.mpr ⟨lw_r2, lw_r3⟩⟩
end
section
/-! ===== BEGIN words of one list among another's, by their places ===== -/
theorem goodIn_r {big : List Cond} (ws : List Cond) (ps : List Nat) (hp : ws = ps.filterMap (fun i => big[i]?)) (h : ws.all goodWord = true) : GoodIn big ws := by
  intro w hw
  have h1 := List.all_eq_true.mp h w hw
  rw [hp] at hw
  obtain ⟨i, -, hi⟩ := List.mem_filterMap.mp hw
  have hm : w ∈ big := by first | exact List.mem_of_getElem? hi | exact List.getElem?_mem hi
  exact ⟨hm, good_of_word h1⟩
theorem goodIn_app {big a b : List Cond} (ha : GoodIn big a) (hb : GoodIn big b) : GoodIn big (a ++ b) := fun w h => (List.mem_append.mp h).elim (ha w) (hb w)
theorem goodIn_ca {big a b : List Cond} {c : Cond} (ha : GoodIn big (c :: a)) (hb : GoodIn big b) : GoodIn big (c :: (a ++ b)) := fun w h => (List.mem_cons.mp h).elim (fun e => ha w (List.mem_cons.mpr (Or.inl e))) (fun h => (List.mem_append.mp h).elim (fun h => ha w (List.mem_cons.mpr (Or.inr h))) (hb w))
theorem goodIn_sub {big ws : List Cond} (hm : ∀ w ∈ ws, w ∈ big) (h : ws.all goodWord = true) : GoodIn big ws := fun w hw => ⟨hm w hw, good_of_word (List.all_eq_true.mp h w hw)⟩
/-! ===== END ===== -/

/-! ===== BEGIN exceptions that leave a method, and their catching by the caller (launches without stack traces) ===== -/
section VXA
/-! The laws vx_back, vx_callV, vx_callS, vx_callSW, vx_throw0, vx_throwS follow proofs of the library, with one case more: JvmDerived/Free/Laws.lean (Back.of_free), Shelf42/LK1.lean (callV, callS), Shelf/KitTraced.lean (throwNew0V, throwNewS). -/
/-- where a method has thrown q: the class by its name, the cell, what was written, the world -/
def vx_T (XC : String → State → State → Prop) (st : State) (q : Addr) (t : State) (mc ms : Nat) (free : Addr → Prop) : Prop :=
  ∃ (E : String) (ce : Cell) (L : List Loc), XC E st t ∧ t.heap[q]? = some ce ∧ ce.vm = .none ∧ st.vm.findClass E = some ce.cls ∧ st.WarmedH t.vm ∧ st.sameButNew ({ t with vm := st.vm } : State) L mc ms ∧ ∀ z ∈ L, free z.base
def vx_Q (Qc : Array Value → State → Outcome → State → Prop) (XC : String → State → State → Prop) (mc ms : Nat) (free : Addr → Prop) : Array Value → State → Outcome → State → Prop := fun a st o t =>
  (Qc a st o t ∧ ∃ L, FrameEnd st o t L mc ms ∧ ∀ q ∈ L, free q.base) ∨ ∃ q, o = .threw q ∧ vx_T XC st q t mc ms free
/-- a callee that returns or throws -/
def vx_Met (l : Launch) (y : MethodName) (ws : List Cond) (rm : Room) (Pc : Array Value → State → Prop) (Qc : Array Value → State → Outcome → State → Prop) (XC : String → State → State → Prop) (mc ms : Nat) (free : Addr → Prop) : Prop :=
  MetFree l y (headSpec ws rm) Pc (fun _ _ _ _ _ => True) (vx_Q Qc XC mc ms free)
def vx_Post (XC : String → State → State → Prop) (mc ms : Nat) (free : Addr → Prop) : Pt → Array Value → Addr → Pt → Prop := fun A a q B =>
  ∃ (g : JFrame) (mk : MethodId) (t : State) (L : List Loc) (E : String) (ce : Cell), B.U.heap = t.heap ∧ B.U.vm = t.vm ∧ XC E (A.U.calling g mk a) t ∧ t.heap[q]? = some ce ∧ ce.vm = .none ∧ A.U.vm.findClass E = some ce.cls ∧ B.locs = A.locs ++ L ∧ (∀ z ∈ L, free z.base) ∧ B.cells = A.cells + mc ∧ B.slots = A.slots + ms
def vx_Back (l : Launch) (R : Room) (p : Program) (e : Env) (below : List Frame) (s : State) (sargs : Array Value) (y : MethodName) (len W9 : Nat)
    (Pre : Pt → Array Value → Prop) (Post : Pt → Array Value → Option Value → Pt → Prop) (PostX : Pt → Array Value → Addr → Pt → Prop) : Prop :=
  ∀ (m : MethodId) (meth : Method) (c : Code) (A : Pt) (g : JFrame) (ig : Instr) (mk : MethodId) (a : Array Value),
    Stand p l e R s m sargs below meth c A.U A.locs A.cells A.slots → g.method = m → g.locals.size = c.maxLocals → decode c.code g.pc = .ok (ig, len) →
    2 * g.monitorRoom + (g.stack.map fun v => v.category).sum ≤ W9 → A.U.methodNamed? y = some mk → Pre A a →
    (∃ (v : Option Value) (B : Pt), Stand p l e R s m sargs below meth c B.U B.locs B.cells B.slots ∧ Post A a v B ∧
      Steps p.tables e below (doInvoke e (A.U.setTop g) [] mk a).1 (B.U.setTop { g with pc := g.pc + len, stack := v.toList ++ g.stack })) ∨
    (∃ (q : Addr) (B : Pt), Stand p l e R s m sargs below meth c B.U B.locs B.cells B.slots ∧ PostX A a q B ∧
      Steps p.tables e below (doInvoke e (A.U.setTop g) [] mk a).1 ((B.U.setTop g).pushFrame (.throwing q)))
section Payer
variable {l : Launch} {R : Room} {p : Program} {e : Env} {below : List Frame} {s : State} {sargs : Array Value} {y : MethodName} {len W9 : Nat}
theorem vx_back {ws : List Cond} {rm : Room} {Pc : Array Value → State → Prop} {Qc : Array Value → State → Outcome → State → Prop} {XC : String → State → State → Prop} {mc ms : Nat} {free : Addr → Prop} {bytes : ByteArray} {maxL : Nat} {ret : Option FieldType}
    (hM : vx_Met l y ws rm Pc Qc XC mc ms free) (hblind : FrameBlind Pc) (hrc : rm.cells = mc) (hrs : rm.slots = ms)
    (hframes : rm.frames + 1 ≤ R.frames) (hlocals : W9 + (maxL + 11) + rm.locals ≤ R.locals)
    (hws : ∀ w ∈ ws, ∀ a' U, s.WarmedH U.vm → w.before a' U = true) (hcode : Cond.code y bytes maxL ret ∈ ws) (hinit : ∀ a' U, s.WarmedH U.vm → (Cond.initialized y.cls).before a' U = true) :
    vx_Back l R p e below s sargs y len W9 (PreOf R mc ms Pc) (PostOf Qc mc ms free) (vx_Post XC mc ms free) := by
  intro m meth c A g ig mk a X hg hsize hdg hW hn hp
  have h1 : (headSpec ws rm).pre.before a A.U = true := atoms_intro fun w hw => hws w hw _ _ X.warmed
  have h2 : (Cond.code y bytes maxL ret).before a A.U = true := hws _ hcode _ _ X.warmed
  have h3 : (Cond.initialized y.cls).before a A.U = true := hinit _ _ X.warmed
  have h4 : A.cells + (headSpec ws rm).room.cells ≤ R.cells := by rw [show (headSpec ws rm).room.cells = mc from hrc]; exact hp.1
  have h5 : A.slots + (headSpec ws rm).room.slots ≤ R.slots := by rw [show (headSpec ws rm).room.slots = ms from hrs]; exact hp.2.1
  have hPc : Pc a (A.U.calling g mk a) := hblind _ _ _ _ hp.2.2
  obtain ⟨U, Ls, c0, s0⟩ := A
  dsimp only [Pt.U, Pt.locs, Pt.cells, Pt.slots] at h1 h2 h3 h4 h5 X hn hPc ⊢
  obtain ⟨methY, cY, hmY, hcY, -, hlY, -, -, -, -⟩ := Cond.code_spec hn h2
  obtain ⟨kY, hkY, -⟩ := className_of_methodNamed hn
  have hinitY : kY.init = .initialized := Cond.initialized_spec (findClass_of_methodNamed hn) hkY h3
  have h : At U g.method c below := by rw [hg]; exact X.here
  have hlocals9 : W9 + (maxL + 11) + (headSpec ws rm).room.locals ≤ R.locals := hlocals
  have happ : (headSpec ws rm).appliesLoose y e.platform (U.calling g mk a) = true :=
    Spec.appliesLoose_calling (g := g) h hdg hn hkY hinitY
      (X.room_calling (g := g) (R' := (headSpec ws rm).room) hsize hmY hcY hframes (by rw [hlY]; omega) h4 h5) h1
  obtain ⟨mid, hmid⟩ := h.above
  have hfr : (U.setTop g).frames = (.java g :: mid) ++ below := by rw [State.frames_setTop' g h.top, hmid]; rfl
  obtain ⟨o, s₂, hsteps, -, hend, hq⟩ := Steps.callFree hM p X.admits X.cas X.clock (acts := []) hfr happ hPc trivial
  have hq' : vx_Q Qc XC mc ms free a (U.calling g mk a) o s₂ := hq
  rw [State.frames_setTop' g h.top] at hend
  obtain ⟨g₀, hg0⟩ := Option.isSome_iff_exists.mp h.top
  obtain ⟨r, hr⟩ := State.topJava?_eq_some.mp hg0
  have hr' : (({ U with heap := s₂.heap, slotsUsed := s₂.slotsUsed } : State).setVm s₂.vm).frames = .java g₀ :: r := hr
  rcases hq' with ⟨hqc, L, hfe, hL⟩ | ⟨q, rfl, E, ce, L, hx, hce, hcv, hcl, hW₂, hsm, hL⟩
  · obtain ⟨⟨v, rfl⟩, hW₂, e2, q2, q3, q4, q5, q6⟩ := id hfe
    have e3 : s₂ = ({ (U.calling g mk a).setFrames s₂.frames with heap := s₂.heap, slotsUsed := s₂.slotsUsed } : State).setVm s₂.vm := by
      have : s₂ = ({ s₂ with vm := (U.calling g mk a).vm } : State).setVm s₂.vm := rfl
      rw [e2] at this
      exact this
    obtain ⟨c₂, i₂, len₂, hc₂, hd₂, hf₂⟩ := hend
    have hW' : U.WarmedH s₂.vm := hW₂
    have hcc : c₂ = c := by
      have h1 : s₂.code? g.method = U.code? g.method := by
        rw [State.code?_eq, State.code?_eq, hW'.alike.method?]
      exact Option.some.inj (hc₂.symm.trans (h1.trans h.code))
    subst hcc
    have hlen : len₂ = len := by rw [hdg] at hd₂; cases hd₂; rfl
    subst hlen
    have hs₂ : s₂ = (({ U with heap := s₂.heap, slotsUsed := s₂.slotsUsed } : State).setVm s₂.vm).setTop { g with pc := g.pc + len₂, stack := v.toList ++ g.stack } := by
      refine e3.trans ?_
      rw [hf₂, State.calling_eq h.top, State.setFrames_setFrames, State.setTop_of_frames _ hr', hr]
      rfl
    have hsame : U.sameButNew ({ U with heap := s₂.heap, slotsUsed := s₂.slotsUsed } : State) L mc ms := by
      refine ⟨?_, q2, q3, q4, q5, q6⟩
      obtain ⟨t, ht, -⟩ := State.frames_cons hr
      show ({ U with heap := s₂.heap, slotsUsed := s₂.slotsUsed } : State) = { U.setFrames U.frames with heap := s₂.heap, slotsUsed := s₂.slotsUsed }
      rw [State.setFrames_self ht]
    subst hg
    refine Or.inl ⟨v, ⟨(({ U with heap := s₂.heap, slotsUsed := s₂.slotsUsed } : State).setVm s₂.vm), Ls ++ L, c0 + mc, s0 + ms⟩,
      ⟨X.admits, X.cas, X.clock, X.frames, X.room, X.hears, X.method, X.code, (X.here.setHeapUsed s₂.heap s₂.slotsUsed).setVm hW'.alike, X.tail, State.WarmedH.trans X.warmed hW', X.limits, X.bytes, X.same.trans (hsame.setVm s.vm)⟩,
      ⟨g, mk, s₂, L, rfl, rfl, hqc, rfl, hL, rfl, rfl⟩, ?_⟩
    show Steps p.tables e below _ ((({ U with heap := s₂.heap, slotsUsed := s₂.slotsUsed } : State).setVm s₂.vm).setTop { g with pc := g.pc + len₂, stack := v.toList ++ g.stack })
    rw [← hs₂]
    exact hsteps
  · obtain ⟨e2, q2, q3, q4, q5, q6⟩ := id hsm
    have e3 : s₂ = ({ (U.calling g mk a).setFrames s₂.frames with heap := s₂.heap, slotsUsed := s₂.slotsUsed } : State).setVm s₂.vm := by
      have : s₂ = ({ s₂ with vm := (U.calling g mk a).vm } : State).setVm s₂.vm := rfl
      rw [e2] at this
      exact this
    have hf₂ : s₂.frames = .throwing q :: .java g :: U.frames.tail := hend
    have hW' : U.WarmedH s₂.vm := hW₂
    have hs₂ : s₂ = ((({ U with heap := s₂.heap, slotsUsed := s₂.slotsUsed } : State).setVm s₂.vm).setTop g).pushFrame (.throwing q) := by
      refine e3.trans ?_
      rw [hf₂, State.calling_eq h.top, State.setFrames_setFrames, State.pushFrame, State.frames_setTop _ hr', State.setTop_of_frames _ hr', State.setFrames_setFrames, hr]
      rfl
    have hsame : U.sameButNew ({ U with heap := s₂.heap, slotsUsed := s₂.slotsUsed } : State) L mc ms := by
      refine ⟨?_, q2, q3, q4, q5, q6⟩
      obtain ⟨t, ht, -⟩ := State.frames_cons hr
      show ({ U with heap := s₂.heap, slotsUsed := s₂.slotsUsed } : State) = { U.setFrames U.frames with heap := s₂.heap, slotsUsed := s₂.slotsUsed }
      rw [State.setFrames_self ht]
    subst hg
    refine Or.inr ⟨q, ⟨(({ U with heap := s₂.heap, slotsUsed := s₂.slotsUsed } : State).setVm s₂.vm), Ls ++ L, c0 + mc, s0 + ms⟩,
      ⟨X.admits, X.cas, X.clock, X.frames, X.room, X.hears, X.method, X.code, (X.here.setHeapUsed s₂.heap s₂.slotsUsed).setVm hW'.alike, X.tail, State.WarmedH.trans X.warmed hW', X.limits, X.bytes, X.same.trans (hsame.setVm s.vm)⟩,
      ⟨g, mk, s₂, L, E, ce, rfl, rfl, hx, hce, hcv, hcl, rfl, hL, rfl, rfl⟩, ?_⟩
    show Steps p.tables e below _ (((({ U with heap := s₂.heap, slotsUsed := s₂.slotsUsed } : State).setVm s₂.vm).setTop g).pushFrame (.throwing q))
    rw [← hs₂]
    exact hsteps
end Payer
section Calls
variable {p : Program} {l : Launch} {e : Env} {R : Room} {s : State} {m : MethodId} {args : Array Value} {below : List Frame} {meth : Method} {c : Code} {T : State} {locs : List Loc} {cells slots : Nat}
theorem vx_callV (X : Stand p l e R s m args below meth c T locs cells slots) (hexec : p.tables.exec = Jvm.exec) {own C : String} {index : Nat} {y : MethodName} {bytes : ByteArray} {maxL : Nat} {ret : Option FieldType}
    (hown : s.vm.findClass own = some m.cls) (hlink : (Cond.methodLink own index y).before args s = true) (hinst : (Cond.instanceMethod y).before args s = true) (hsel : (Cond.selects C y y).before args s = true)
    (hcode : (Cond.code y bytes maxL ret).before args s = true) (hy : y.cls ≠ "java/lang/invoke/MethodHandle" ∧ y.cls ≠ "java/lang/invoke/VarHandle")
    {W9 : Nat} {Pre : Pt → Array Value → Prop} {Post : Pt → Array Value → Option Value → Pt → Prop} {PostX : Pt → Array Value → Addr → Pt → Prop} (hK : vx_Back l R p e below s args y 3 W9 Pre Post PostX)
    {b : Addr} {cellB : Cell} (hcell : T.heap[b]? = some cellB) (hobj : cellB.vm.isStatics = false) (hcls : s.vm.findClass C = some cellB.cls)
    {g : JFrame} (hg : g.method = m) (hsize : g.locals.size = c.maxLocals) {argsL rest : List Value} (hlen : ∀ sig, parseMethodDescriptor y.desc = some sig → argsL.length = sig.parameters.length)
    (hstack : g.stack = argsL.reverse ++ .ref b :: rest) (hW : 2 * g.monitorRoom + (rest.map fun v => v.category).sum ≤ W9) (hdg : decode c.code g.pc = .ok (.invokevirtual index, 3))
    (hpre : ∀ vm₁, s.WarmedH vm₁ → Pre ⟨T.setVm vm₁, locs, cells, slots⟩ (Value.ref b :: argsL).toArray) :
    (∃ (v : Option Value) (vm₁ : Vm) (B : Pt), s.WarmedH vm₁ ∧ Stand p l e R s m args below meth c B.U B.locs B.cells B.slots ∧ Post ⟨T.setVm vm₁, locs, cells, slots⟩ (Value.ref b :: argsL).toArray v B ∧
      ∀ target, Steps p.tables e below (B.U.setTop { g with pc := g.pc + 3, stack := v.toList ++ rest }) target → Steps p.tables e below (T.setTop g) target) ∨
    (∃ (q : Addr) (vm₁ : Vm) (B : Pt), s.WarmedH vm₁ ∧ Stand p l e R s m args below meth c B.U B.locs B.cells B.slots ∧ PostX ⟨T.setVm vm₁, locs, cells, slots⟩ (Value.ref b :: argsL).toArray q B ∧
      Steps p.tables e below (T.setTop g) ((B.U.setTop { g with stack := rest }).pushFrame (.throwing q))) := by
  obtain ⟨mk, methM, hnamed, hmethM, hstM, habM⟩ := Cond.instanceMethod_spec hinst
  obtain ⟨methM', cM, hmethM', -, -, -, -, -, -, hsigM⟩ := Cond.code_spec hnamed hcode
  cases hmethM.symm.trans hmethM'
  obtain ⟨c2, r2, m2, q1, q2, q3, q4, kP, hkP, hkPi⟩ := Cond.selects_spec hsel
  cases hcls.symm.trans q1
  cases (State.methodFound?_of_named hnamed hy).symm.trans q2
  cases hnamed.symm.trans q3
  have hselP : selectMethod e.platform s.vm cellB.cls mk = .method mk := by rw [Launch.admits_selectMethod X.admits]; exact q4
  obtain ⟨vm₁, X₁, hstep₁⟩ := X.invokevirtual hexec hown hlink hnamed hmethM hstM hkP hkPi hy (a := b) (cell := cellB) hcell
    (fun z h => by rw [h] at hobj; cases hobj) hselP hmethM habM hkP hkPi (g := g) hg (argsL := argsL) (rest := rest) (hlen _ hsigM) hstack hdg
  rcases hK m meth c ⟨T.setVm vm₁, locs, cells, slots⟩ { g with stack := rest } (.invokevirtual index) mk (Value.ref b :: argsL).toArray X₁ hg hsize hdg hW (X₁.named hnamed) (hpre vm₁ X₁.warmed) with ⟨v, B, X', hpost, hsteps⟩ | ⟨q, B, X', hpost, hsteps⟩
  · exact Or.inl ⟨v, vm₁, B, X₁.warmed, X', hpost, fun target h => hstep₁ _ fun acts => by rw [doInvoke_state]; exact hsteps.trans h⟩
  · exact Or.inr ⟨q, vm₁, B, X₁.warmed, X', hpost, hstep₁ _ fun acts => by rw [doInvoke_state]; exact hsteps⟩
theorem vx_callS (X : Stand p l e R s m args below meth c T locs cells slots) (hexec : p.tables.exec = Jvm.exec) {own : String} {index : Nat} {y : MethodName} {bytes : ByteArray} {maxL : Nat} {ret : Option FieldType}
    (hown : s.vm.findClass own = some m.cls) (hlink : (Cond.methodLink own index y).before args s = true) (hstat : (Cond.static y).before args s = true) (hinit : (Cond.initialized y.cls).before args s = true)
    (hcode : (Cond.code y bytes maxL ret).before args s = true) (hy : y.cls ≠ "java/lang/invoke/MethodHandle" ∧ y.cls ≠ "java/lang/invoke/VarHandle")
    {W9 : Nat} {Pre : Pt → Array Value → Prop} {Post : Pt → Array Value → Option Value → Pt → Prop} {PostX : Pt → Array Value → Addr → Pt → Prop} (hK : vx_Back l R p e below s args y 3 W9 Pre Post PostX)
    {g : JFrame} (hg : g.method = m) (hsize : g.locals.size = c.maxLocals) {argsL rest : List Value} (hlen : ∀ sig, parseMethodDescriptor y.desc = some sig → argsL.length = sig.parameters.length)
    (hstack : g.stack = argsL.reverse ++ rest) (hW : 2 * g.monitorRoom + (rest.map fun v => v.category).sum ≤ W9) (hdg : decode c.code g.pc = .ok (.invokestatic index, 3))
    (hpre : ∀ vm₁, s.WarmedH vm₁ → Pre ⟨T.setVm vm₁, locs, cells, slots⟩ argsL.toArray) :
    (∃ (v : Option Value) (vm₁ : Vm) (B : Pt), s.WarmedH vm₁ ∧ Stand p l e R s m args below meth c B.U B.locs B.cells B.slots ∧ Post ⟨T.setVm vm₁, locs, cells, slots⟩ argsL.toArray v B ∧
      ∀ target, Steps p.tables e below (B.U.setTop { g with pc := g.pc + 3, stack := v.toList ++ rest }) target → Steps p.tables e below (T.setTop g) target) ∨
    (∃ (q : Addr) (vm₁ : Vm) (B : Pt), s.WarmedH vm₁ ∧ Stand p l e R s m args below meth c B.U B.locs B.cells B.slots ∧ PostX ⟨T.setVm vm₁, locs, cells, slots⟩ argsL.toArray q B ∧
      Steps p.tables e below (T.setTop g) ((B.U.setTop { g with stack := rest }).pushFrame (.throwing q))) := by
  obtain ⟨mk, hnamed⟩ := Cond.code_named hcode
  obtain ⟨methM, cM, hmethM, -, -, -, -, -, -, hsigM⟩ := Cond.code_spec hnamed hcode
  have hstatic : methM.isStatic = true := Cond.static_spec hnamed hmethM hstat
  obtain ⟨kP, hkP, -⟩ := className_of_methodNamed hnamed
  have hinitP : kP.init = .initialized := Cond.initialized_spec (findClass_of_methodNamed hnamed) hkP hinit
  obtain ⟨vm₁, X₁, hstep₁⟩ := X.invokestatic hexec hown hlink hnamed hmethM hstatic hkP hinitP hy (g := g) hg (argsL := argsL) (rest := rest) (hlen _ hsigM) hstack hdg
  rcases hK m meth c ⟨T.setVm vm₁, locs, cells, slots⟩ { g with stack := rest } (.invokestatic index) mk argsL.toArray X₁ hg hsize hdg hW (X₁.named hnamed) (hpre vm₁ X₁.warmed) with ⟨v, B, X', hpost, hsteps⟩ | ⟨q, B, X', hpost, hsteps⟩
  · exact Or.inl ⟨v, vm₁, B, X₁.warmed, X', hpost, fun target h => hstep₁ _ fun acts => by rw [doInvoke_state]; exact hsteps.trans h⟩
  · exact Or.inr ⟨q, vm₁, B, X₁.warmed, X', hpost, hstep₁ _ fun acts => by rw [doInvoke_state]; exact hsteps⟩
end Calls
theorem vx_cls {s : State} {T : State} {vm₁ : Vm} {E : String} {k : ClassId} (hW : s.WarmedH vm₁) (h : (T.setVm vm₁).vm.findClass E = some k) : s.vm.findClass E = some k := by
  have h1 : vm₁.findClass E = some k := h
  rw [hW.alike.findClass] at h1
  exact h1
/-- the method's frame g, with q thrown over it -/
def vx_W (p : Program) (l : Launch) (e : Env) (R : Room) (s : State) (m : MethodId) (args : Array Value) (below : List Frame) (meth : Method) (c : Code) (H : Heap) (locs : List Loc) (cells slots : Nat) (Q : State → Prop) (g : JFrame) (q : Addr) : Prop :=
  ∀ T : State, T.heap = H → Stand p l e R s m args below meth c T locs cells slots → ∃ t, Steps p.tables e below ((T.setTop g).pushFrame (.throwing q)) t ∧ Q t
def vx_Run (p : Program) (l : Launch) (e : Env) (R : Room) (s : State) (m : MethodId) (args : Array Value) (below : List Frame) (meth : Method) (c : Code) (H : Heap) (locs : List Loc) (cells slots mc ms : Nat) (g : JFrame) (rest : List Value) (Qa : State → Outcome → State → Prop) (XC : String → State → State → Prop) (free : Addr → Prop) : Prop :=
  ∀ T : State, T.heap = H → Stand p l e R s m args below meth c T locs cells slots →
    (∃ (v : Option Value) (st₀ t T' : State) (L : List Loc), st₀.heap = H ∧ Stand p l e R s m args below meth c T' (locs ++ L) (cells + mc) (slots + ms) ∧ (∀ q ∈ L, free q.base) ∧ T'.heap = t.heap ∧ T'.vm = t.vm ∧ Qa st₀ (.returned v) t ∧
      Goes p e below T g T' { g with pc := g.pc + 3, stack := v.toList ++ rest }) ∨
    (∃ (q : Addr) (st₀ t T' : State) (L : List Loc) (E : String) (ce : Cell), st₀.heap = H ∧ Stand p l e R s m args below meth c T' (locs ++ L) (cells + mc) (slots + ms) ∧ (∀ z ∈ L, free z.base) ∧ T'.heap = t.heap ∧ T'.vm = t.vm ∧ XC E st₀ t ∧ t.heap[q]? = some ce ∧ ce.vm = .none ∧ s.vm.findClass E = some ce.cls ∧
      Steps p.tables e below (T.setTop g) ((T'.setTop { g with stack := rest }).pushFrame (.throwing q)))
def vx_X {S : Type} (px : S → Prop) (B : String → S → State → Prop) (A : Nat → Prop) : String → State → State → Prop := fun E st t => ∃ u : S, px u ∧ B E u t ∧ va_F A st t
section Runs
variable {p : Program} {l : Launch} {e : Env} {R : Room} {s : State} {m : MethodId} {args : Array Value} {below : List Frame} {meth : Method} {c : Code} {H : Heap} {locs : List Loc} {cells slots : Nat}
variable {y : MethodName} {bytes cc : ByteArray} {maxL nL mc ms n index : Nat} {ret : Option FieldType} {ws : List Cond} {rm : Room} {Pc : Array Value → State → Prop} {Qc : Array Value → State → Outcome → State → Prop} {XC : String → State → State → Prop} {free : Addr → Prop} {Ts : List Cond} {own C : String} {b : Addr} {As rest : List Value} {g : JFrame}
theorem vx_callBack (cb : CallB R s args own index y bytes maxL ret ws rm mc ms n) (hM : vx_Met l y ws rm Pc Qc XC mc ms free) (hbl : FrameBlind Pc) : vx_Back l R p e below s args y 3 8 (PreOf R mc ms Pc) (PostOf Qc mc ms free) (vx_Post XC mc ms free) := by
  obtain ⟨hrc, hrs, hfr, hlo, hws, hcw, -, hini, -⟩ := cb
  exact vx_back (bytes := bytes) (maxL := maxL) (ret := ret) hM hbl hrc hrs hfr hlo hws hcw (fun a' U hW => word_at hW (Or.inl (by first | rfl | simp [Cond.onTables, Cond.keeps, Cond.steady])) hini)
theorem vx_runV (S : CallFix p m c cc nL s args Ts own) (hM : vx_Met l y ws rm Pc Qc XC mc ms free) (cw : CallW R s args own C index y bytes maxL ret ws rm mc ms n) (hp : PreV s H C b Pc As)
    (hg : g.method = m) (hn : As.length = n) (hsize : g.locals.size = nL) (hstack : g.stack = As.reverse ++ .ref b :: rest) (hW : 2 * g.monitorRoom + (rest.map fun v => v.category).sum ≤ 8) (hdg : decode cc g.pc = .ok (.invokevirtual index, 3)) (hf : cells + mc ≤ R.cells ∧ slots + ms ≤ R.slots) :
    vx_Run p l e R s m args below meth c H locs cells slots mc ms g rest (Qc (Value.ref b :: As).toArray) XC free := by
  have hK : vx_Back l R p e below s args y 3 8 (PreOf R mc ms Pc) (PostOf Qc mc ms free) (vx_Post XC mc ms free) := vx_callBack cw.1 hM hp.1
  obtain ⟨⟨-, -, -, -, -, -, hcode, -, hy, hlen, hl⟩, hin, hse⟩ := cw
  obtain ⟨hx, hb, hml, ho, -⟩ := S
  obtain ⟨-, ⟨cellB, hcB, hoB, hclB⟩, hPc⟩ := hp
  intro T hT X
  rcases vx_callV X hx (C := C) (bytes := bytes) (maxL := maxL) (ret := ret) ho hl hin hse hcode hy hK (by rw [hT]; exact hcB) hoB hclB hg (hsize.trans hml.symm) (argsL := As) (rest := rest) (fun sig h => hn.trans (hlen sig h)) hstack hW (by rw [hb]; exact hdg)
    (fun vm₁ hW₁ => ⟨hf.1, hf.2, hPc (T.setVm vm₁) hT hW₁⟩) with ⟨v, vm₁, ⟨U', l2, c2, s2⟩, hW₁, X', ⟨g', mk, t, L, e1, e2, hq, h1, hL, h2, h3⟩, st⟩ | ⟨q, vm₁, ⟨U', l2, c2, s2⟩, hW₁, X', ⟨g', mk, t, L, E, ce, e1, e2, hq, hce, hcv, hcl, h1, hL, h2, h3⟩, st⟩
  · dsimp only [Pt.U, Pt.locs, Pt.cells, Pt.slots] at X' e1 e2 h1 h2 h3 st
    subst h1; subst h2; subst h3
    exact Or.inl ⟨v, (T.setVm vm₁).calling g' mk (Value.ref b :: As).toArray, t, U', L, hT, X', hL, e1, e2, hq, st⟩
  · dsimp only [Pt.U, Pt.locs, Pt.cells, Pt.slots] at X' e1 e2 h1 h2 h3 st hcl
    subst h1; subst h2; subst h3
    exact Or.inr ⟨q, (T.setVm vm₁).calling g' mk (Value.ref b :: As).toArray, t, U', L, E, ce, hT, X', hL, e1, e2, hq, hce, hcv, vx_cls hW₁ hcl, st⟩
theorem vx_runS (S : CallFix p m c cc nL s args Ts own) (hM : vx_Met l y ws rm Pc Qc XC mc ms free) (cw : CallB R s args own index y bytes maxL ret ws rm mc ms n ∧ (Cond.static y).before args s = true) (hp : PreS s H Pc As)
    (hg : g.method = m) (hn : As.length = n) (hsize : g.locals.size = nL) (hstack : g.stack = As.reverse ++ rest) (hW : 2 * g.monitorRoom + (rest.map fun v => v.category).sum ≤ 8) (hdg : decode cc g.pc = .ok (.invokestatic index, 3)) (hf : cells + mc ≤ R.cells ∧ slots + ms ≤ R.slots) :
    vx_Run p l e R s m args below meth c H locs cells slots mc ms g rest (Qc As.toArray) XC free := by
  have hK : vx_Back l R p e below s args y 3 8 (PreOf R mc ms Pc) (PostOf Qc mc ms free) (vx_Post XC mc ms free) := vx_callBack cw.1 hM hp.1
  obtain ⟨⟨-, -, -, -, -, -, hcode, hini, hy, hlen, hl⟩, hstt⟩ := cw
  obtain ⟨hx, hb, hml, ho, -⟩ := S
  intro T hT X
  rcases vx_callS X hx (bytes := bytes) (maxL := maxL) (ret := ret) ho hl hstt hini hcode hy hK hg (hsize.trans hml.symm) (argsL := As) (rest := rest) (fun sig h => hn.trans (hlen sig h)) hstack hW (by rw [hb]; exact hdg)
    (fun vm₁ hW₁ => ⟨hf.1, hf.2, hp.2 (T.setVm vm₁) hT hW₁⟩) with ⟨v, vm₁, ⟨U', l2, c2, s2⟩, hW₁, X', ⟨g', mk, t, L, e1, e2, hq, h1, hL, h2, h3⟩, st⟩ | ⟨q, vm₁, ⟨U', l2, c2, s2⟩, hW₁, X', ⟨g', mk, t, L, E, ce, e1, e2, hq, hce, hcv, hcl, h1, hL, h2, h3⟩, st⟩
  · dsimp only [Pt.U, Pt.locs, Pt.cells, Pt.slots] at X' e1 e2 h1 h2 h3 st
    subst h1; subst h2; subst h3
    exact Or.inl ⟨v, (T.setVm vm₁).calling g' mk As.toArray, t, U', L, hT, X', hL, e1, e2, hq, st⟩
  · dsimp only [Pt.U, Pt.locs, Pt.cells, Pt.slots] at X' e1 e2 h1 h2 h3 st hcl
    subst h1; subst h2; subst h3
    exact Or.inr ⟨q, (T.setVm vm₁).calling g' mk As.toArray, t, U', L, E, ce, hT, X', hL, e1, e2, hq, hce, hcv, vx_cls hW₁ hcl, st⟩
end Runs
section Rows
variable {p : Program} {l : Launch} {e : Env} {R : Room} {s : State} {m : MethodId} {args : Array Value} {below : List Frame} {meth : Method} {c : Code} {H : Heap} {locs : List Loc} {cells slots : Nat} {Q : State → Prop}
variable {mc ms : Nat} {free : Addr → Prop} {A0 A1 : Nat → Prop} {H0 : Heap} {a : Array Value} {pc : Nat} {ls : Array Slot} {st0 rest : List Value}
theorem vx_keep {st₀ t T' : State} {L : List Loc} (h0 : st₀.heap = H) (e1 : T'.heap = t.heap) (hS : va_S A0 H0 H locs) (hA : ∀ q, q < H.size → A1 q → A0 q) (hf : ∀ q, free q → A0 q) (hL : ∀ q ∈ L, free q.base) (hF : va_F A1 st₀ t) :
    H.size ≤ T'.heap.size ∧ (∀ q : Nat, q < H.size → ¬ A1 q → T'.heap[q]? = H[q]?) ∧ va_S A0 H0 T'.heap (locs ++ L) := by
  obtain ⟨hz, hk⟩ := hF
  rw [h0] at hz hk
  exact ⟨by rw [e1]; exact hz, fun q h1 h2 => by rw [e1]; exact hk q h1 h2,
    ⟨Nat.le_trans hS.1 (by rw [e1]; exact hz), fun q h1 h2 => by rw [e1, hk q (Nat.lt_of_lt_of_le h1 hS.1) (fun z => h2 (hA q (Nat.lt_of_lt_of_le h1 hS.1) z))]; exact hS.2.1 q h1 h2, fun q hq => by
      rcases List.mem_append.mp hq with h | h
      · exact hS.2.2 q h
      · exact hf _ (hL q h)⟩⟩
theorem vx_calli {S SX : Type} {post : Int32 → S → Prop} {px : SX → Prop} {B : S → State → Prop} {BX : String → SX → State → Prop} {AX : Nat → Prop} (hr : vx_Run p l e R s m args below meth c H locs cells slots mc ms (F0 m pc ls st0) rest (va_Qi post B A1 a) (vx_X px BX AX) free) (hS : va_S A0 H0 H locs) (hA : ∀ q, q < H.size → A1 q → A0 q) (hf : ∀ q, free q → A0 q) (hAX : ∀ q, q < H.size → AX q → A0 q)
    (kx : ∀ (E : String) (ce : Cell) (q9 : Addr) (u : SX) (t : State) (H1 : Heap) (locs1 : List Loc), t.heap = H1 → s.vm.Alike t.vm → px u → BX E u t → H.size ≤ H1.size → (∀ q : Nat, q < H.size → ¬ AX q → H1[q]? = H[q]?) → va_S A0 H0 H1 locs1 → H1[q9]? = some ce → ce.vm = .none → s.vm.findClass E = some ce.cls → vx_W p l e R s m args below meth c H1 locs1 (cells + mc) (slots + ms) Q (F0 m pc ls rest) q9)
    (kk : ∀ (r : Int32) (u : S) (t : State) (H1 : Heap) (locs1 : List Loc), t.heap = H1 → s.vm.Alike t.vm → post r u → B u t → H.size ≤ H1.size → (∀ q : Nat, q < H.size → ¬ A1 q → H1[q]? = H[q]?) → va_S A0 H0 H1 locs1 → W p l e R s m args below meth c H1 locs1 (cells + mc) (slots + ms) Q (F0 m (pc + 3) ls (.int r :: rest))) : W p l e R s m args below meth c H locs cells slots Q (F0 m pc ls st0) := by
  intro T hT X
  rcases hr T hT X with ⟨v, st₀, t, T', L, h0, X', hL, e1, e2, ⟨⟨r, u, hv, hp, hb⟩, hF⟩, st⟩ | ⟨q, st₀, t, T', L, E, ce, h0, X', hL, e1, e2, ⟨u, hp, hb, hF⟩, hce, hcv, hcl, st⟩
  · cases hv
    obtain ⟨k1, k2, k3⟩ := vx_keep h0 e1 hS hA hf hL hF
    obtain ⟨t2, a1, b1⟩ := kk r u t T'.heap (locs ++ L) e1.symm (by rw [← e2]; exact X'.warmed.alike) hp hb k1 k2 k3 T' rfl X'
    exact ⟨t2, st t2 a1, b1⟩
  · obtain ⟨k1, k2, k3⟩ := vx_keep h0 e1 hS hAX hf hL hF
    obtain ⟨t2, a1, b1⟩ := kx E ce q u t T'.heap (locs ++ L) e1.symm (by rw [← e2]; exact X'.warmed.alike) hp hb k1 k2 k3 (by rw [e1]; exact hce) hcv hcl T' rfl X'
    exact ⟨t2, st.trans a1, b1⟩
theorem vx_calll {S SX : Type} {post : Int64 → S → Prop} {px : SX → Prop} {B : S → State → Prop} {BX : String → SX → State → Prop} {AX : Nat → Prop} (hr : vx_Run p l e R s m args below meth c H locs cells slots mc ms (F0 m pc ls st0) rest (va_Ql post B A1 a) (vx_X px BX AX) free) (hS : va_S A0 H0 H locs) (hA : ∀ q, q < H.size → A1 q → A0 q) (hf : ∀ q, free q → A0 q) (hAX : ∀ q, q < H.size → AX q → A0 q)
    (kx : ∀ (E : String) (ce : Cell) (q9 : Addr) (u : SX) (t : State) (H1 : Heap) (locs1 : List Loc), t.heap = H1 → s.vm.Alike t.vm → px u → BX E u t → H.size ≤ H1.size → (∀ q : Nat, q < H.size → ¬ AX q → H1[q]? = H[q]?) → va_S A0 H0 H1 locs1 → H1[q9]? = some ce → ce.vm = .none → s.vm.findClass E = some ce.cls → vx_W p l e R s m args below meth c H1 locs1 (cells + mc) (slots + ms) Q (F0 m pc ls rest) q9)
    (kk : ∀ (r : Int64) (u : S) (t : State) (H1 : Heap) (locs1 : List Loc), t.heap = H1 → s.vm.Alike t.vm → post r u → B u t → H.size ≤ H1.size → (∀ q : Nat, q < H.size → ¬ A1 q → H1[q]? = H[q]?) → va_S A0 H0 H1 locs1 → W p l e R s m args below meth c H1 locs1 (cells + mc) (slots + ms) Q (F0 m (pc + 3) ls (.long r :: rest))) : W p l e R s m args below meth c H locs cells slots Q (F0 m pc ls st0) := by
  intro T hT X
  rcases hr T hT X with ⟨v, st₀, t, T', L, h0, X', hL, e1, e2, ⟨⟨r, u, hv, hp, hb⟩, hF⟩, st⟩ | ⟨q, st₀, t, T', L, E, ce, h0, X', hL, e1, e2, ⟨u, hp, hb, hF⟩, hce, hcv, hcl, st⟩
  · cases hv
    obtain ⟨k1, k2, k3⟩ := vx_keep h0 e1 hS hA hf hL hF
    obtain ⟨t2, a1, b1⟩ := kk r u t T'.heap (locs ++ L) e1.symm (by rw [← e2]; exact X'.warmed.alike) hp hb k1 k2 k3 T' rfl X'
    exact ⟨t2, st t2 a1, b1⟩
  · obtain ⟨k1, k2, k3⟩ := vx_keep h0 e1 hS hAX hf hL hF
    obtain ⟨t2, a1, b1⟩ := kx E ce q u t T'.heap (locs ++ L) e1.symm (by rw [← e2]; exact X'.warmed.alike) hp hb k1 k2 k3 (by rw [e1]; exact hce) hcv hcl T' rfl X'
    exact ⟨t2, st.trans a1, b1⟩
theorem vx_callf {S SX : Type} {post : UInt32 → S → Prop} {px : SX → Prop} {B : S → State → Prop} {BX : String → SX → State → Prop} {AX : Nat → Prop} (hr : vx_Run p l e R s m args below meth c H locs cells slots mc ms (F0 m pc ls st0) rest (va_Qf post B A1 a) (vx_X px BX AX) free) (hS : va_S A0 H0 H locs) (hA : ∀ q, q < H.size → A1 q → A0 q) (hf : ∀ q, free q → A0 q) (hAX : ∀ q, q < H.size → AX q → A0 q)
    (kx : ∀ (E : String) (ce : Cell) (q9 : Addr) (u : SX) (t : State) (H1 : Heap) (locs1 : List Loc), t.heap = H1 → s.vm.Alike t.vm → px u → BX E u t → H.size ≤ H1.size → (∀ q : Nat, q < H.size → ¬ AX q → H1[q]? = H[q]?) → va_S A0 H0 H1 locs1 → H1[q9]? = some ce → ce.vm = .none → s.vm.findClass E = some ce.cls → vx_W p l e R s m args below meth c H1 locs1 (cells + mc) (slots + ms) Q (F0 m pc ls rest) q9)
    (kk : ∀ (r : UInt32) (u : S) (t : State) (H1 : Heap) (locs1 : List Loc), t.heap = H1 → s.vm.Alike t.vm → post r u → B u t → H.size ≤ H1.size → (∀ q : Nat, q < H.size → ¬ A1 q → H1[q]? = H[q]?) → va_S A0 H0 H1 locs1 → W p l e R s m args below meth c H1 locs1 (cells + mc) (slots + ms) Q (F0 m (pc + 3) ls (.float r :: rest))) : W p l e R s m args below meth c H locs cells slots Q (F0 m pc ls st0) := by
  intro T hT X
  rcases hr T hT X with ⟨v, st₀, t, T', L, h0, X', hL, e1, e2, ⟨⟨r, u, hv, hp, hb⟩, hF⟩, st⟩ | ⟨q, st₀, t, T', L, E, ce, h0, X', hL, e1, e2, ⟨u, hp, hb, hF⟩, hce, hcv, hcl, st⟩
  · cases hv
    obtain ⟨k1, k2, k3⟩ := vx_keep h0 e1 hS hA hf hL hF
    obtain ⟨t2, a1, b1⟩ := kk r u t T'.heap (locs ++ L) e1.symm (by rw [← e2]; exact X'.warmed.alike) hp hb k1 k2 k3 T' rfl X'
    exact ⟨t2, st t2 a1, b1⟩
  · obtain ⟨k1, k2, k3⟩ := vx_keep h0 e1 hS hAX hf hL hF
    obtain ⟨t2, a1, b1⟩ := kx E ce q u t T'.heap (locs ++ L) e1.symm (by rw [← e2]; exact X'.warmed.alike) hp hb k1 k2 k3 (by rw [e1]; exact hce) hcv hcl T' rfl X'
    exact ⟨t2, st.trans a1, b1⟩
theorem vx_calld {S SX : Type} {post : UInt64 → S → Prop} {px : SX → Prop} {B : S → State → Prop} {BX : String → SX → State → Prop} {AX : Nat → Prop} (hr : vx_Run p l e R s m args below meth c H locs cells slots mc ms (F0 m pc ls st0) rest (va_Qd post B A1 a) (vx_X px BX AX) free) (hS : va_S A0 H0 H locs) (hA : ∀ q, q < H.size → A1 q → A0 q) (hf : ∀ q, free q → A0 q) (hAX : ∀ q, q < H.size → AX q → A0 q)
    (kx : ∀ (E : String) (ce : Cell) (q9 : Addr) (u : SX) (t : State) (H1 : Heap) (locs1 : List Loc), t.heap = H1 → s.vm.Alike t.vm → px u → BX E u t → H.size ≤ H1.size → (∀ q : Nat, q < H.size → ¬ AX q → H1[q]? = H[q]?) → va_S A0 H0 H1 locs1 → H1[q9]? = some ce → ce.vm = .none → s.vm.findClass E = some ce.cls → vx_W p l e R s m args below meth c H1 locs1 (cells + mc) (slots + ms) Q (F0 m pc ls rest) q9)
    (kk : ∀ (r : UInt64) (u : S) (t : State) (H1 : Heap) (locs1 : List Loc), t.heap = H1 → s.vm.Alike t.vm → post r u → B u t → H.size ≤ H1.size → (∀ q : Nat, q < H.size → ¬ A1 q → H1[q]? = H[q]?) → va_S A0 H0 H1 locs1 → W p l e R s m args below meth c H1 locs1 (cells + mc) (slots + ms) Q (F0 m (pc + 3) ls (.double r :: rest))) : W p l e R s m args below meth c H locs cells slots Q (F0 m pc ls st0) := by
  intro T hT X
  rcases hr T hT X with ⟨v, st₀, t, T', L, h0, X', hL, e1, e2, ⟨⟨r, u, hv, hp, hb⟩, hF⟩, st⟩ | ⟨q, st₀, t, T', L, E, ce, h0, X', hL, e1, e2, ⟨u, hp, hb, hF⟩, hce, hcv, hcl, st⟩
  · cases hv
    obtain ⟨k1, k2, k3⟩ := vx_keep h0 e1 hS hA hf hL hF
    obtain ⟨t2, a1, b1⟩ := kk r u t T'.heap (locs ++ L) e1.symm (by rw [← e2]; exact X'.warmed.alike) hp hb k1 k2 k3 T' rfl X'
    exact ⟨t2, st t2 a1, b1⟩
  · obtain ⟨k1, k2, k3⟩ := vx_keep h0 e1 hS hAX hf hL hF
    obtain ⟨t2, a1, b1⟩ := kx E ce q u t T'.heap (locs ++ L) e1.symm (by rw [← e2]; exact X'.warmed.alike) hp hb k1 k2 k3 (by rw [e1]; exact hce) hcv hcl T' rfl X'
    exact ⟨t2, st.trans a1, b1⟩
theorem vx_callv {S SX : Type} {post : S → Prop} {px : SX → Prop} {B : S → State → Prop} {BX : String → SX → State → Prop} {AX : Nat → Prop} (hr : vx_Run p l e R s m args below meth c H locs cells slots mc ms (F0 m pc ls st0) rest (va_Qv post B A1 a) (vx_X px BX AX) free) (hS : va_S A0 H0 H locs) (hA : ∀ q, q < H.size → A1 q → A0 q) (hf : ∀ q, free q → A0 q) (hAX : ∀ q, q < H.size → AX q → A0 q)
    (kx : ∀ (E : String) (ce : Cell) (q9 : Addr) (u : SX) (t : State) (H1 : Heap) (locs1 : List Loc), t.heap = H1 → s.vm.Alike t.vm → px u → BX E u t → H.size ≤ H1.size → (∀ q : Nat, q < H.size → ¬ AX q → H1[q]? = H[q]?) → va_S A0 H0 H1 locs1 → H1[q9]? = some ce → ce.vm = .none → s.vm.findClass E = some ce.cls → vx_W p l e R s m args below meth c H1 locs1 (cells + mc) (slots + ms) Q (F0 m pc ls rest) q9)
    (kk : ∀ (u : S) (t : State) (H1 : Heap) (locs1 : List Loc), t.heap = H1 → s.vm.Alike t.vm → post u → B u t → H.size ≤ H1.size → (∀ q : Nat, q < H.size → ¬ A1 q → H1[q]? = H[q]?) → va_S A0 H0 H1 locs1 → W p l e R s m args below meth c H1 locs1 (cells + mc) (slots + ms) Q (F0 m (pc + 3) ls (rest))) : W p l e R s m args below meth c H locs cells slots Q (F0 m pc ls st0) := by
  intro T hT X
  rcases hr T hT X with ⟨v, st₀, t, T', L, h0, X', hL, e1, e2, ⟨⟨u, hv, hp, hb⟩, hF⟩, st⟩ | ⟨q, st₀, t, T', L, E, ce, h0, X', hL, e1, e2, ⟨u, hp, hb, hF⟩, hce, hcv, hcl, st⟩
  · cases hv
    obtain ⟨k1, k2, k3⟩ := vx_keep h0 e1 hS hA hf hL hF
    obtain ⟨t2, a1, b1⟩ := kk u t T'.heap (locs ++ L) e1.symm (by rw [← e2]; exact X'.warmed.alike) hp hb k1 k2 k3 T' rfl X'
    exact ⟨t2, st t2 a1, b1⟩
  · obtain ⟨k1, k2, k3⟩ := vx_keep h0 e1 hS hAX hf hL hF
    obtain ⟨t2, a1, b1⟩ := kx E ce q u t T'.heap (locs ++ L) e1.symm (by rw [← e2]; exact X'.warmed.alike) hp hb k1 k2 k3 (by rw [e1]; exact hce) hcv hcl T' rfl X'
    exact ⟨t2, st.trans a1, b1⟩
/-- caught by the row x of this method's table; the rows ahead don't take it -/
theorem vx_catch {own name : String} {E : String} {ce : Cell} {q : Addr} (hown : s.vm.findClass own = some m.cls) (pre : List ExceptionTableEntry) (x : ExceptionTableEntry) (suf : List ExceptionTableEntry) (hsplit : c.exceptionTable.toList = pre ++ x :: suf)
    (hpass : ∀ z ∈ pre, covers z pc = false ∨ (z.catchType ≠ 0 ∧ ∃ nm : String, (Cond.classLink own z.catchType nm).before args s = true ∧ va_Nc E nm s)) (hx : covers x pc = true) (h0 : x.catchType ≠ 0)
    (hlink : (Cond.classLink own x.catchType name).before args s = true) (hcast : (Cond.castable E name).before args s = true) (hcell : H[q]? = some ce) (hv : ce.vm = .none) (hcl : s.vm.findClass E = some ce.cls)
    (kk : W p l e R s m args below meth c H locs cells slots Q (F0 m x.handlerPc ls [.ref q])) : vx_W p l e R s m args below meth c H locs cells slots Q (F0 m pc ls rest) q := by
  intro T hT X
  have hpl : e.platform.magicAccessors = ({} : Platform).magicAccessors := by rw [X.admits.platform]
  obtain ⟨c3, c4, hc3, hc4, hasg⟩ := Cond.castable_spec hcast
  cases Option.some.inj (hc3.symm.trans hcl)
  obtain ⟨c5, hc5, hcl5⟩ := Cond.classLink_spec hown hlink e.platform hpl
  cases Option.some.inj (hc4.symm.trans hc5)
  obtain ⟨vm', X', st⟩ := X.thenCaughtThrough q (g := F0 m pc ls rest) rfl (Steps.refl _) (by rw [hT]; exact hcell) (by rw [hv]; rfl) (by obtain ⟨k9, h9, -⟩ := Vm.findClass_spec hcl; exact ⟨k9, h9⟩) pre x suf hsplit
    (fun z hz => by
      rcases hpass z hz with h | ⟨hz0, nm, hl1, hn1⟩
      · exact Or.inl h
      · obtain ⟨c6, hc6, hcl6⟩ := Cond.classLink_spec hown hl1 e.platform hpl
        obtain ⟨a8, b8, h1, h2, h3⟩ := hn1
        cases Option.some.inj (h1.symm.trans hcl)
        cases Option.some.inj (h2.symm.trans hc6)
        exact Or.inr ⟨hz0, _, hcl6, h3⟩) hx (Or.inr ⟨h0, c4, hcl5, hasg⟩)
  obtain ⟨t, a1, b1⟩ := kk (T.setVm vm') hT X'
  exact ⟨t, st.trans a1, b1⟩
end Rows
section Ends
variable {p : Program} {l : Launch} {e : Env} {R : Room} {s : State} {m : MethodId} {args : Array Value} {below : List Frame} {meth : Method} {c : Code} {H : Heap} {locs : List Loc} {cells slots : Nat} {Q : State → Prop}
variable {mc ms : Nat} {free : Addr → Prop} {A0 A1 : Nat → Prop} {H0 : Heap} {a : Array Value} {ls : Array Slot} {st0 rest : List Value}
variable {Qc : Array Value → State → Outcome → State → Prop} {XC : String → State → State → Prop}
/-- what a body that may throw owes at its end -/
def vx_MQ (below : List Frame) (Qc : Array Value → State → Outcome → State → Prop) (XC : String → State → State → Prop) (a : Array Value) (s : State) (mc ms : Nat) (free : Addr → Prop) : State → Prop := fun t =>
  ∃ o, t.status = .running ∧ Ended t below o ∧ vx_Q Qc XC mc ms free a s o t
theorem vx_ret {g : JFrame} {mc ms : Nat} (k : W p l e R s m args below meth c H locs cells slots (MQ below Qc args s mc ms free) g) : W p l e R s m args below meth c H locs cells slots (vx_MQ below Qc XC args s mc ms free) g := by
  intro T hT X
  obtain ⟨t, a1, o, b1, b2, b3, b4⟩ := k T hT X
  exact ⟨t, a1, o, b1, b2, Or.inl ⟨b3, b4⟩⟩
/-- not caught here: it goes on to the caller -/
theorem vx_widen {g : JFrame} {q : Addr} {k n : Nat} (h1 : cells ≤ k) (h2 : slots ≤ n) (kk : vx_W p l e R s m args below meth c H locs k n Q g q) : vx_W p l e R s m args below meth c H locs cells slots Q g q := fun T hT X => kk T hT (stand_widen X h1 h2)
theorem vx_out {pc : Nat} {E : String} {ce : Cell} {q : Addr} {mc ms : Nat} (hout : ∀ x ∈ c.exceptionTable.toList, covers x pc = false) (hlocks : meth.locks = false) (hcell : H[q]? = some ce) (hv : ce.vm = .none) (hcl : s.vm.findClass E = some ce.cls)
    (hx : ∀ t : State, t.heap = H → s.vm.Alike t.vm → XC E s t) (hf : ∀ z ∈ locs, free z.base) (hc : cells ≤ mc) (hs : slots ≤ ms) :
    vx_W p l e R s m args below meth c H locs cells slots (vx_MQ below Qc XC args s mc ms free) (F0 m pc ls rest) q := by
  intro T hT X
  obtain ⟨st1, hrun, hend, hW, hsm⟩ := X.leaveThrown q (g := F0 m pc ls rest) rfl rfl rfl hout hlocks
  have hcell9 : (T.setFrames (.throwing q :: below)).heap[q]? = some ce := by
    show T.heap[q]? = some ce
    rw [hT]; exact hcell
  exact ⟨_, st1, .threw q, hrun, hend, Or.inr ⟨q, rfl, E, ce, locs, hx _ hT hW.alike, hcell9, hv, hcl, hW, hsm.mono hc hs, hf⟩⟩
theorem vx_frame {U : State} {k n : Nat} (h : s.sameButNew ({ U with vm := s.vm } : State) locs k n) : s.heap.size ≤ U.heap.size ∧ ∀ q : Nat, q < s.heap.size → (∀ z ∈ locs, z.base ≠ q) → U.heap[q]? = s.heap[q]? := by
  obtain ⟨-, h2, -, -, -, h6⟩ := h
  refine ⟨h2, fun q hq hz => ?_⟩
  obtain ⟨c9, e1, e2, e3, e4⟩ := h6 q _ (Array.getElem?_eq_getElem hq)
  have hs : c9.slots = (s.heap[q]).slots := Array.ext_getElem? fun i => e4 i fun hm => hz _ hm rfl
  have h9 : c9 = s.heap[q] := by
    rw [hs] at e2
    exact e2
  have e5 : U.heap[q]? = some c9 := e1
  rw [e5, h9, Array.getElem?_eq_getElem hq]
/-- the words of a throw but the four that speak of the heap -/
def vx_no (w : Cond) : Bool := decide (w ≠ .isRef (.static Bundle.tN "UNASSIGNED_STACK" Bundle.steD)) && decide (w ≠ .isRef (.static Bundle.tN "SUPPRESSED_SENTINEL" Bundle.listD)) && decide (w ≠ .laysStatic Bundle.tN "UNASSIGNED_STACK" Bundle.steD) && decide (w ≠ .laysStatic Bundle.tN "SUPPRESSED_SENTINEL" Bundle.listD)
def vx_at0 (own : String) (ic : Nat) (X : String) (names : List String) : List Cond := (Bundle.ownAtoms0 own ic X names).filter vx_no
def vx_atS (own : String) (ic : Nat) (X : String) (names : List String) : List Cond := (Bundle.ownAtoms own ic X names).filter vx_no
/-- a word that the tables alone decide, or a good one -/
def vx_ot (w : Cond) : Bool := w.onTables || goodWord w
theorem vx_ot_at {args a' : Array Value} {s U : State} {w : Cond} (hW : s.WarmedH U.vm) (hvm : s.vm = U.vm) (hg : vx_ot w = true) (h : w.before args s = true) : w.before a' U = true := by
  simp only [vx_ot, Bool.or_eq_true] at hg
  rcases hg with hg | hg
  · exact va_tabs hg hvm h
  · exact word_at hW (good_of_word hg) h
/-- a list's words: the good ones out of the method's own list, the others by premises of their own -/
theorem vx_hat {args : Array Value} {s : State} {L B : List Cond} (h1 : ∀ w ∈ L.filter goodWord, w.before args s = true) (h2 : ∀ w ∈ L.filter (fun w => !goodWord w), w ∈ B) (h3 : ∀ w ∈ B, w.before args s = true) : ∀ w ∈ L, w.before args s = true := by
  intro w hw
  by_cases g : goodWord w = true
  · exact h1 w (List.mem_filter.mpr ⟨hw, g⟩)
  · refine h3 w (h2 w (List.mem_filter.mpr ⟨hw, ?_⟩))
    show (!goodWord w) = true
    cases hgw : goodWord w
    · rfl
    · exact absurd hgw g
theorem vx_c {args : Array Value} {s : State} {w : Cond} {B : List Cond} (h : w.before args s = true) (t : ∀ w ∈ B, w.before args s = true) : ∀ w' ∈ w :: B, w'.before args s = true := fun w' h' => (List.mem_cons.mp h').elim (fun e => by rw [e]; exact h) (t w')
theorem vx_n {args : Array Value} {s : State} : ∀ w ∈ ([] : List Cond), w.before args s = true := fun _ h => nomatch h
theorem vx_own {args : Array Value} {s : State} {L : List Cond} (h1 : ∀ w ∈ L.filter vx_no, w.before args s = true)
    (hU : (Cond.isRef (.static Bundle.tN "UNASSIGNED_STACK" Bundle.steD)).before args s = true) (hN : (Cond.isRef (.static Bundle.tN "SUPPRESSED_SENTINEL" Bundle.listD)).before args s = true)
    (lU : (Cond.laysStatic Bundle.tN "UNASSIGNED_STACK" Bundle.steD).before args s = true) (lN : (Cond.laysStatic Bundle.tN "SUPPRESSED_SENTINEL" Bundle.listD).before args s = true) : ∀ w ∈ L, w.before args s = true := by
  intro w hw
  by_cases e1 : w = .isRef (.static Bundle.tN "UNASSIGNED_STACK" Bundle.steD)
  · rw [e1]; exact hU
  · by_cases e2 : w = .isRef (.static Bundle.tN "SUPPRESSED_SENTINEL" Bundle.listD)
    · rw [e2]; exact hN
    · by_cases e3 : w = .laysStatic Bundle.tN "UNASSIGNED_STACK" Bundle.steD
      · rw [e3]; exact lU
      · by_cases e4 : w = .laysStatic Bundle.tN "SUPPRESSED_SENTINEL" Bundle.listD
        · rw [e4]; exact lN
        · exact h1 w (List.mem_filter.mpr ⟨hw, by unfold vx_no; rw [decide_eq_true e1, decide_eq_true e2, decide_eq_true e3, decide_eq_true e4]; rfl⟩)
/-- where a static field lies, its class's statics cell in H -/
def vx_L (C n d : String) (A : Nat → Prop) (U : State) (H : Heap) : Prop := ∃ (c : ClassId) (k : Class) (i : Nat) (f : Field) (a : Nat) (cell : Cell), U.vm.findClass C = some c ∧ U.fieldFound? C n d = some (c, k, i, f) ∧ f.isStatic = true ∧ k.statics = some a ∧ H[a]? = some cell ∧ cell.vm.isStatics = true ∧ cell.cls = c ∧ f.slot < cell.slots.size ∧ k.staticTypes[f.slot]? = some f.type ∧ ¬ A a
theorem vx_L.moved {C n d : String} {A : Nat → Prop} {u U : State} {H : Heap} (hvm : u.vm.Alike U.vm) (h : vx_L C n d A u H) : vx_L C n d A U H := by
  obtain ⟨c, k, i, f, a, cell, h1, h2, h3, h4, h5, h6, h7, h8, h9, h10⟩ := h
  obtain ⟨k', hi', he⟩ := State.fieldFound?_setVm hvm h2
  exact ⟨c, k', i, f, a, cell, by rw [hvm.findClass]; exact h1, hi', h3, by rw [he]; exact h4, h5, h6, h7, h8, by rw [he]; exact h9, h10⟩
theorem vx_L.kept {C n d : String} {A : Nat → Prop} {U : State} {H H1 : Heap} (h : vx_L C n d A U H) (hq : ∀ a : Nat, a < H.size → ¬ A a → H1[a]? = H[a]?) : vx_L C n d A U H1 := by
  obtain ⟨c, k, i, f, a, cell, h1, h2, h3, h4, h5, h6, h7, h8, h9, h10⟩ := h
  exact ⟨c, k, i, f, a, cell, h1, h2, h3, h4, by rw [hq a (Array.getElem?_eq_some_iff.mp h5).1 h10]; exact h5, h6, h7, h8, h9, h10⟩
theorem vx_L.narrow {C n d : String} {A B : Nat → Prop} {U : State} {H : Heap} (h : vx_L C n d A U H) (hAB : ∀ q, B q → A q) : vx_L C n d B U H := by
  obtain ⟨c, k, i, f, a, cell, h1, h2, h3, h4, h5, h6, h7, h8, h9, h10⟩ := h
  exact ⟨c, k, i, f, a, cell, h1, h2, h3, h4, h5, h6, h7, h8, h9, fun z => h10 (hAB _ z)⟩
theorem vx_L.word {C n d : String} {A : Nat → Prop} {s : State} {args : Array Value} (h : vx_L C n d A s s.heap) : (Cond.laysStatic C n d).before args s = true := by
  obtain ⟨c, k, i, f, a, cell, h1, h2, h3, h4, h5, h6, h7, h8, h9, -⟩ := h
  show (Cond.laysStatic C n d).holds args s none s [] = true
  exact Cond.laysStatic_of h1 h2 h3 h4 h5 h6 h7 h8 h9
/-- .. and what it holds: null or some reference -/
def vx_Zq (C n d : String) (A : Nat → Prop) (U : State) (H : Heap) : Prop := va_Zq C n d A U H ∧ vx_L C n d A U H
theorem vx_Zq.moved {C n d : String} {A : Nat → Prop} {u U : State} {H : Heap} (hvm : u.vm.Alike U.vm) (h : vx_Zq C n d A u H) : vx_Zq C n d A U H := ⟨va_Zq.moved hvm h.1, vx_L.moved hvm h.2⟩
theorem vx_Zq.kept {C n d : String} {A : Nat → Prop} {U : State} {H H1 : Heap} (h : vx_Zq C n d A U H) (hq : ∀ a : Nat, a < H.size → ¬ A a → H1[a]? = H[a]?) : vx_Zq C n d A U H1 := ⟨va_Zq.kept h.1 hq, vx_L.kept h.2 hq⟩
theorem vx_Zq.narrow {C n d : String} {A B : Nat → Prop} {U : State} {H : Heap} (h : vx_Zq C n d A U H) (hAB : ∀ q, B q → A q) : vx_Zq C n d B U H := ⟨va_Zq.narrow h.1 hAB, vx_L.narrow h.2 hAB⟩
theorem vx_Zqof {args : Array Value} {s : State} {C n d : String} {A : Nat → Prop} (hl : (Cond.laysStatic C n d).before args s = true) (hini : (Cond.initialized C).before args s = true) (h : (Cond.isRef (.static C n d)).before args s = true) (hA : ∀ a : Nat, a < s.heap.size → ¬ A a) : vx_Zq C n d A s s.heap := by
  refine ⟨va_Zqof hl hini h hA, ?_⟩
  obtain ⟨c, k, i, f, a, cell, h1, h2, h3, h4, h5, h6, h7, h8, h9⟩ := Cond.laysStatic_spec hl
  exact ⟨c, k, i, f, a, cell, h1, h2, h3, h4, h5, h6, h7, h8, h9, hA a (Array.getElem?_eq_some_iff.mp h5).1⟩
theorem vx_isRef {C n d : String} {v : Value} {A : Nat → Prop} {s : State} {args : Array Value} (h : va_Z C n d v A s s.heap) (hv : v.isRef = true) : (Cond.isRef (.static C n d)).before args s = true := by
  obtain ⟨cf, kf, fi, f, a, cell, h1, h2, h3, h4, h5, h6, h7, -⟩ := h
  have he : (Term.static C n d).eval args s none [] s = some v := by
    simp [Term.eval, State.fieldNamed?, h1, h2, h4, h5, h6, h7]
  simp only [Cond.before, Cond.holds, Cond.value, he]
  cases v <;> simp_all [Value.isRef]
theorem vx_isRefq {C n d : String} {A : Nat → Prop} {s : State} {args : Array Value} (h : va_Zq C n d A s s.heap) : (Cond.isRef (.static C n d)).before args s = true := by
  rcases h with h | ⟨t, h⟩
  · exact vx_isRef h rfl
  · exact vx_isRef h rfl
/-- the same frame, seen from here: as if the method were called anew in this heap -/
theorem vx_rebase {T : State} (X : Stand p l e R s m args below meth c T locs cells slots) {R' : Room} (hf : R'.frames ≤ R.frames) (hl : R'.locals ≤ R.locals) (hc : cells + R'.cells ≤ R.cells) (hs : slots + R'.slots ≤ R.slots) :
    Stand p l e R' ((T.setVm s.vm).setFrames (.invoking m args :: below)) m args below meth c T [] 0 0 := by
  have htop : (T.setVm s.vm).topJava?.isSome := X.here.top
  have hF : ((T.setVm s.vm).setFrames (.invoking m args :: below)).frames = .invoking m args :: below := State.frames_setFrames _ (State.cur_lt_of_top htop)
  obtain ⟨g₀, hg0⟩ := Option.isSome_iff_exists.mp htop
  obtain ⟨r, hr⟩ := State.topJava?_eq_some.mp hg0
  have hl9 : e.platform.stackLimits (T.setVm s.vm).me = e.platform.stackLimits s.me := X.limits
  have hb9 : (T.setVm s.vm).me.stackBytes = s.me.stackBytes := X.bytes
  refine ⟨X.admits, X.cas, X.clock, hF, ?_, X.hears, X.method, X.code, X.here, X.tail, X.warmed, ?_, ?_, ?_⟩
  · have h := X.room
    have hU : ((T.setVm s.vm).setFrames (.invoking m args :: below)).localsInUse = s.localsInUse := by
      rw [State.localsInUse_invoking hF (meth := meth) (c := c) X.method X.code, State.localsInUse_invoking X.frames X.method X.code]
    simp only [State.hasRoom, Bool.and_eq_true, decide_eq_true_eq] at h ⊢
    obtain ⟨⟨⟨⟨h1, h2, h3, h4, h5, h6⟩, h7⟩, h8⟩, h9⟩ := h
    rw [X.frames, List.length_cons] at h2 h3
    have q1 := X.heapSize
    have q2 := X.used
    simp only [hF, hU, List.length_cons, State.stackLimits_setFrames, State.stackBytes_setFrames, hl9, hb9]
    refine ⟨⟨⟨⟨by omega, by omega, by omega, by omega, by omega, h6⟩, ?_⟩, ?_⟩, X.book⟩
    · show T.heap.size + R'.cells ≤ e.platform.maxCells
      omega
    · show T.slotsUsed + R'.slots ≤ e.platform.maxSlots
      omega
  · rw [State.stackLimits_setFrames]; rfl
  · rw [State.stackBytes_setFrames]; rfl
  · refine ⟨?_, Nat.le_refl _, Nat.le_refl _, ?_, ?_, fun a c9 h9 => ⟨c9, h9, rfl, rfl, fun _ _ => rfl⟩⟩
    · obtain ⟨t, ht, -⟩ := State.frames_cons hr
      show T.setVm s.vm = { ((T.setVm s.vm).setFrames (.invoking m args :: below)).setFrames (T.setVm s.vm).frames with heap := T.heap, slotsUsed := T.slotsUsed }
      rw [State.setFrames_setFrames, State.setFrames_self ht]
      rfl
    · show T.slotsUsed = T.slotsUsed + ((T.heap.toList.drop T.heap.size).map (·.slots.size)).sum
      rw [List.drop_eq_nil_of_le (Nat.le_of_eq Array.length_toList)]
      rfl
    · show ((T.heap.toList.drop T.heap.size).map (·.slots.size)).sum ≤ 0
      rw [List.drop_eq_nil_of_le (Nat.le_of_eq Array.length_toList)]
      exact Nat.le_refl _
/-- 'throw new E()': new; dup; invokespecial; athrow -/
theorem vx_throw0 {cc : ByteArray} {pc : Nat} (hexec : p.tables.exec = Jvm.exec) (hb : c.code = cc) (hl : l.stackTraces = false) {own cls : String} {names : List String} {ik ic mc ms : Nat} {A : Nat → Prop}
    (hown : s.vm.findClass own = some m.cls) (hcls : Bundle.fit cls = true) (hnames : ∀ n ∈ names, Bundle.fit n = true)
    (hk : (Cond.classLink own ik cls).before args s = true) (hini : (Cond.initialized cls).before args s = true) (hat : ∀ w ∈ vx_at0 own ic cls names, w.before args s = true)
    (hgood : ∀ w ∈ Cond.classLink own ik cls :: Cond.initialized cls :: vx_at0 own ic cls names, vx_ot w = true)
    (hU : vx_Zq Bundle.tN "UNASSIGNED_STACK" Bundle.steD A s s.heap) (hN : vx_Zq Bundle.tN "SUPPRESSED_SENTINEL" Bundle.listD A s s.heap) (hS : va_S A s.heap H locs) (hsize : ls.size = c.maxLocals)
    (d0 : decode cc pc = .ok (.new ik, 3)) (d3 : decode cc (pc + 3) = .ok (.dup, 1)) (d4 : decode cc (pc + 4) = .ok (.invokespecial ic, 3)) (d7 : decode cc (pc + 7) = .ok (.athrow, 1))
    (hout : ∀ x ∈ c.exceptionTable.toList, covers x (pc + 7) = false)
    (hRframes : names.length + 3 < R.frames) (hRlocals : (rest.map fun v => v.category).sum + (13 * (names.length + 1) + 42) ≤ R.locals) (hRcells : cells + 1 ≤ R.cells) (hRslots : slots + 6 ≤ R.slots) (hlocks : meth.locks = false)
    (hx : ∀ t : State, s.vm.Alike t.vm → H.size ≤ t.heap.size → (∀ q : Nat, q < H.size → t.heap[q]? = H[q]?) → XC cls s t)
    (hf : ∀ z ∈ locs, free z.base) (hc : cells + 1 ≤ mc) (hs : slots + 6 ≤ ms) :
    W p l e R s m args below meth c H locs cells slots (vx_MQ below Qc XC args s mc ms free) (F0 m pc ls rest) := by
  intro T hT X
  have htr : e.platform.stackTraces = false := (show e.platform.stackTraces = l.stackTraces by rw [X.admits.platform]).trans hl
  have Y := vx_rebase X (R' := { frames := R.frames, locals := R.locals, cells := 1, slots := 6 }) (Nat.le_refl _) (Nat.le_refl _) hRcells hRslots
  obtain ⟨s', hA⟩ : ∃ z, z = (T.setVm s.vm).setFrames (.invoking m args :: below) := ⟨_, rfl⟩
  rw [← hA] at Y
  have hvm : s'.vm = s.vm := by rw [hA]; rfl
  have hhp : s'.heap = H := by rw [hA]; exact hT
  have hW0 : s.WarmedH s'.vm := by rw [hvm]; exact State.WarmedH.refl s
  have hat' : ∀ w ∈ vx_at0 own ic cls names, w.before args s' = true := fun w hw => vx_ot_at hW0 hvm.symm (hgood w (List.mem_cons_of_mem _ (List.mem_cons_of_mem _ hw))) (hat w hw)
  have hk' : (Cond.classLink own ik cls).before args s' = true := vx_ot_at hW0 hvm.symm (hgood _ List.mem_cons_self) hk
  have hini' : (Cond.initialized cls).before args s' = true := vx_ot_at hW0 hvm.symm (hgood _ (List.mem_cons_of_mem _ List.mem_cons_self)) hini
  have hU' : vx_Zq Bundle.tN "UNASSIGNED_STACK" Bundle.steD A s' s'.heap := by rw [hhp]; exact vx_Zq.moved hW0.alike (hU.kept hS.2.1)
  have hN' : vx_Zq Bundle.tN "SUPPRESSED_SENTINEL" Bundle.listD A s' s'.heap := by rw [hhp]; exact vx_Zq.moved hW0.alike (hN.kept hS.2.1)
  have h : ∀ w ∈ Bundle.ownAtoms0 own ic cls names, w.before args s' = true := vx_own hat' (vx_isRefq hU'.1) (vx_isRefq hN'.1) hU'.2.word hN'.2.word
  have hown' : s'.vm.findClass own = some m.cls := by rw [hvm]; exact hown
  have hins : (Cond.instantiable cls 6).before args s' = true := h _ (by simp [Bundle.ownAtoms0])
  obtain ⟨vm₁, cX, kX, hfX, hkX, -, -, X₁, st1⟩ := Y.newCold hexec (own := own) (C := cls) (index := ik) (n := 6) hown' hk' hins hini'
    (g := F0 m pc ls rest) rfl (by rw [hb]; exact d0) (Nat.le_refl _) (Nat.le_refl _)
  generalize hT1 : (T.setVm vm₁).pushCell { cls := cX, slots := kX.instanceTypes.map defaultValue, vm := .none } = T1 at X₁ st1
  have hcat : (Value.ref T.heap.size).category = 1 := rfl
  have hcellA : T1.heap[T.heap.size]? = some (freshCell cX kX) := by rw [← hT1]; exact State.heap_pushCell_size _ _
  have d3' : decode c.code (pc + 3) = .ok (.dup, 1) := by rw [hb]; exact d3
  obtain ⟨U, hsteps, hrun, hend, hW, hsame, ce, hce, hO⟩ := X₁.ctorThrow0 hexec htr (own := own) (cls := cls) (names := names) (ic := ic) hown' hcls hnames h (fun x hx => nomatch hx) hfX hkX hcellA (by rw [hhp, hT]; exact Nat.le_refl _)
    (g := { method := m, pc := pc + 4, locals := ls, stack := .ref T.heap.size :: .ref T.heap.size :: rest, locked := none }) rfl hsize rfl rfl (rest := rest) rfl
    (by rw [hb]; exact d4) (by rw [hb]; exact d7) hout hRframes (by simp only [List.map_cons, List.sum_cons, hcat]; omega) hlocks
  obtain ⟨f1, f2⟩ := vx_frame hsame
  rw [hhp] at f1 f2
  have hWs : s.WarmedH U.vm := State.WarmedH.trans hW0 hW
  have hcl : s.vm.findClass cls = some ce.cls := by
    have h9 := hO.cls
    rw [hvm] at h9
    exact h9
  have hall : s.sameButNew ({ U with vm := s.vm } : State) locs mc ms := by
    subst hA
    obtain ⟨e1, e2⟩ := hsame
    rw [State.setFrames_setFrames] at e1
    have h2 : (T.setVm s.vm).sameButNew ({ U with vm := s.vm } : State) [] (0 + 1) (0 + 6) := ⟨e1, e2⟩
    have h3 := X.same.trans h2
    rw [List.append_nil] at h3
    exact h3.mono hc hs
  refine ⟨U, ?_, .threw T.heap.size, hrun, hend, Or.inr ⟨T.heap.size, rfl, cls, ce, locs, hx U hWs.alike f1 (fun q hq => f2 q hq (fun z hz => nomatch hz)), hce, hO.vm, hcl, hWs, hall, hf⟩⟩
  refine st1 _ ?_
  show Steps p.tables e below (T1.setTop { method := m, pc := pc + 3, locals := ls, stack := .ref T.heap.size :: rest, locked := none }) _
  jvm_step X₁.here [X₁.here.top, hexec, d3', Value.category]
  exact hsteps
/-- 'throw new E("text")': new; dup; ldc; invokespecial; athrow -/
theorem vx_throwS {cc : ByteArray} {pc : Nat} (hexec : p.tables.exec = Jvm.exec) (hb : c.code = cc) (hl : l.stackTraces = false) {own cls text : String} {names : List String} {ik is ic mc ms sa : Nat} {A : Nat → Prop}
    (hown : s.vm.findClass own = some m.cls) (hcls : Bundle.fit cls = true) (hnames : ∀ n ∈ names, Bundle.fit n = true)
    (hk : (Cond.classLink own ik cls).before args s = true) (hini : (Cond.initialized cls).before args s = true) (hstr : vk_R own is text sa s) (hat : ∀ w ∈ vx_atS own ic cls names, w.before args s = true)
    (hgood : ∀ w ∈ Cond.classLink own ik cls :: Cond.initialized cls :: vx_atS own ic cls names, vx_ot w = true)
    (hU : vx_Zq Bundle.tN "UNASSIGNED_STACK" Bundle.steD A s s.heap) (hN : vx_Zq Bundle.tN "SUPPRESSED_SENTINEL" Bundle.listD A s s.heap) (hS : va_S A s.heap H locs) (hsize : ls.size = c.maxLocals)
    (d0 : decode cc pc = .ok (.new ik, 3)) (d3 : decode cc (pc + 3) = .ok (.dup, 1)) (d4 : decode cc (pc + 4) = .ok (.ldc is, 2)) (d6 : decode cc (pc + 6) = .ok (.invokespecial ic, 3)) (d9 : decode cc (pc + 9) = .ok (.athrow, 1))
    (hout : ∀ x ∈ c.exceptionTable.toList, covers x (pc + 9) = false)
    (hRframes : names.length + 3 < R.frames) (hRlocals : (rest.map fun v => v.category).sum + (13 * (names.length + 1) + 43) ≤ R.locals) (hRcells : cells + 1 ≤ R.cells) (hRslots : slots + 6 ≤ R.slots) (hlocks : meth.locks = false)
    (hx : ∀ t : State, s.vm.Alike t.vm → H.size ≤ t.heap.size → (∀ q : Nat, q < H.size → t.heap[q]? = H[q]?) → XC cls s t)
    (hf : ∀ z ∈ locs, free z.base) (hc : cells + 1 ≤ mc) (hs : slots + 6 ≤ ms) :
    W p l e R s m args below meth c H locs cells slots (vx_MQ below Qc XC args s mc ms free) (F0 m pc ls rest) := by
  intro T hT X
  have htr : e.platform.stackTraces = false := (show e.platform.stackTraces = l.stackTraces by rw [X.admits.platform]).trans hl
  have Y := vx_rebase X (R' := { frames := R.frames, locals := R.locals, cells := 1, slots := 6 }) (Nat.le_refl _) (Nat.le_refl _) hRcells hRslots
  obtain ⟨s', hA⟩ : ∃ z, z = (T.setVm s.vm).setFrames (.invoking m args :: below) := ⟨_, rfl⟩
  rw [← hA] at Y
  have hvm : s'.vm = s.vm := by rw [hA]; rfl
  have hhp : s'.heap = H := by rw [hA]; exact hT
  have hW0 : s.WarmedH s'.vm := by rw [hvm]; exact State.WarmedH.refl s
  have hat' : ∀ w ∈ vx_atS own ic cls names, w.before args s' = true := fun w hw => vx_ot_at hW0 hvm.symm (hgood w (List.mem_cons_of_mem _ (List.mem_cons_of_mem _ hw))) (hat w hw)
  have hk' : (Cond.classLink own ik cls).before args s' = true := vx_ot_at hW0 hvm.symm (hgood _ List.mem_cons_self) hk
  have hini' : (Cond.initialized cls).before args s' = true := vx_ot_at hW0 hvm.symm (hgood _ (List.mem_cons_of_mem _ List.mem_cons_self)) hini
  have hU' : vx_Zq Bundle.tN "UNASSIGNED_STACK" Bundle.steD A s' s'.heap := by rw [hhp]; exact vx_Zq.moved hW0.alike (hU.kept hS.2.1)
  have hN' : vx_Zq Bundle.tN "SUPPRESSED_SENTINEL" Bundle.listD A s' s'.heap := by rw [hhp]; exact vx_Zq.moved hW0.alike (hN.kept hS.2.1)
  have h : ∀ w ∈ Bundle.ownAtoms own ic cls names, w.before args s' = true := vx_own hat' (vx_isRefq hU'.1) (vx_isRefq hN'.1) hU'.2.word hN'.2.word
  have hown' : s'.vm.findClass own = some m.cls := by rw [hvm]; exact hown
  have hins : (Cond.instantiable cls 6).before args s' = true := h _ (by simp [Bundle.ownAtoms])
  obtain ⟨vm₁, cX, kX, hfX, hkX, -, -, X₁, st1⟩ := Y.newCold hexec (own := own) (C := cls) (index := ik) (n := 6) hown' hk' hins hini'
    (g := F0 m pc ls rest) rfl (by rw [hb]; exact d0) (Nat.le_refl _) (Nat.le_refl _)
  generalize hT1 : (T.setVm vm₁).pushCell { cls := cX, slots := kX.instanceTypes.map defaultValue, vm := .none } = T1 at X₁ st1
  have hcat : (Value.ref T.heap.size).category = 1 := rfl
  have hcellA : T1.heap[T.heap.size]? = some (freshCell cX kX) := by rw [← hT1]; exact State.heap_pushCell_size _ _
  have d3' : decode c.code (pc + 3) = .ok (.dup, 1) := by rw [hb]; exact d3
  have d4' : decode c.code (pc + 4) = .ok (.ldc is, 2) := by rw [hb]; exact d4
  have hstr' : vk_R own is text sa s' := vk_R.warm hW0 hstr
  obtain ⟨U, hsteps, hrun, hend, hW, hsame, ce, hce, hO⟩ := X₁.ctorThrowS hexec htr (own := own) (cls := cls) (names := names) (ic := ic) hown' hcls hnames h (fun x hx => nomatch hx) hfX hkX hcellA (by rw [hhp, hT]; exact Nat.le_refl _) (msg := .ref sa) rfl
    (g := { method := m, pc := pc + 6, locals := ls, stack := .ref sa :: .ref T.heap.size :: .ref T.heap.size :: rest, locked := none }) rfl hsize rfl rfl (rest := rest) rfl
    (by rw [hb]; exact d6) (by rw [hb]; exact d9) hout hRframes (by simp only [List.map_cons, List.sum_cons, hcat]; omega) hlocks
  obtain ⟨f1, f2⟩ := vx_frame hsame
  rw [hhp] at f1 f2
  have hWs : s.WarmedH U.vm := State.WarmedH.trans hW0 hW
  have hcl : s.vm.findClass cls = some ce.cls := by
    have h9 := hO.cls
    rw [hvm] at h9
    exact h9
  have hall : s.sameButNew ({ U with vm := s.vm } : State) locs mc ms := by
    subst hA
    obtain ⟨e1, e2⟩ := hsame
    rw [State.setFrames_setFrames] at e1
    have h2 : (T.setVm s.vm).sameButNew ({ U with vm := s.vm } : State) [] (0 + 1) (0 + 6) := ⟨e1, e2⟩
    have h3 := X.same.trans h2
    rw [List.append_nil] at h3
    exact h3.mono hc hs
  refine ⟨U, ?_, .threw T.heap.size, hrun, hend, Or.inr ⟨T.heap.size, rfl, cls, ce, locs, hx U hWs.alike f1 (fun q hq => f2 q hq (fun z hz => nomatch hz)), hce, hO.vm, hcl, hWs, hall, hf⟩⟩
  refine st1 _ ?_
  show Steps p.tables e below (T1.setTop { method := m, pc := pc + 3, locals := ls, stack := .ref T.heap.size :: rest, locked := none }) _
  jvm_step X₁.here [X₁.here.top, hexec, d3', Value.category]
  exact X₁.ldcString hexec (own := own) (text := text) (index := is) (a := sa) hown' hstr'.1 hstr'.2
    (g := { method := m, pc := pc + 4, locals := ls, stack := .ref T.heap.size :: .ref T.heap.size :: rest, locked := none }) rfl d4' _ hsteps
/-- 'throw new E("text")', the text by a wide index -/
theorem vx_throwSW {cc : ByteArray} {pc : Nat} (hexec : p.tables.exec = Jvm.exec) (hb : c.code = cc) (hl : l.stackTraces = false) {own cls text : String} {names : List String} {ik is ic mc ms sa : Nat} {A : Nat → Prop}
    (hown : s.vm.findClass own = some m.cls) (hcls : Bundle.fit cls = true) (hnames : ∀ n ∈ names, Bundle.fit n = true)
    (hk : (Cond.classLink own ik cls).before args s = true) (hini : (Cond.initialized cls).before args s = true) (hstr : vk_R own is text sa s) (hat : ∀ w ∈ vx_atS own ic cls names, w.before args s = true)
    (hgood : ∀ w ∈ Cond.classLink own ik cls :: Cond.initialized cls :: vx_atS own ic cls names, vx_ot w = true)
    (hU : vx_Zq Bundle.tN "UNASSIGNED_STACK" Bundle.steD A s s.heap) (hN : vx_Zq Bundle.tN "SUPPRESSED_SENTINEL" Bundle.listD A s s.heap) (hS : va_S A s.heap H locs) (hsize : ls.size = c.maxLocals)
    (d0 : decode cc pc = .ok (.new ik, 3)) (d3 : decode cc (pc + 3) = .ok (.dup, 1)) (d4 : decode cc (pc + 4) = .ok (.ldc_w is, 3)) (d7 : decode cc (pc + 7) = .ok (.invokespecial ic, 3)) (d10 : decode cc (pc + 10) = .ok (.athrow, 1))
    (hout : ∀ x ∈ c.exceptionTable.toList, covers x (pc + 10) = false)
    (hRframes : names.length + 3 < R.frames) (hRlocals : (rest.map fun v => v.category).sum + (13 * (names.length + 1) + 43) ≤ R.locals) (hRcells : cells + 1 ≤ R.cells) (hRslots : slots + 6 ≤ R.slots) (hlocks : meth.locks = false)
    (hx : ∀ t : State, s.vm.Alike t.vm → H.size ≤ t.heap.size → (∀ q : Nat, q < H.size → t.heap[q]? = H[q]?) → XC cls s t)
    (hf : ∀ z ∈ locs, free z.base) (hc : cells + 1 ≤ mc) (hs : slots + 6 ≤ ms) :
    W p l e R s m args below meth c H locs cells slots (vx_MQ below Qc XC args s mc ms free) (F0 m pc ls rest) := by
  intro T hT X
  have htr : e.platform.stackTraces = false := (show e.platform.stackTraces = l.stackTraces by rw [X.admits.platform]).trans hl
  have Y := vx_rebase X (R' := { frames := R.frames, locals := R.locals, cells := 1, slots := 6 }) (Nat.le_refl _) (Nat.le_refl _) hRcells hRslots
  obtain ⟨s', hA⟩ : ∃ z, z = (T.setVm s.vm).setFrames (.invoking m args :: below) := ⟨_, rfl⟩
  rw [← hA] at Y
  have hvm : s'.vm = s.vm := by rw [hA]; rfl
  have hhp : s'.heap = H := by rw [hA]; exact hT
  have hW0 : s.WarmedH s'.vm := by rw [hvm]; exact State.WarmedH.refl s
  have hat' : ∀ w ∈ vx_atS own ic cls names, w.before args s' = true := fun w hw => vx_ot_at hW0 hvm.symm (hgood w (List.mem_cons_of_mem _ (List.mem_cons_of_mem _ hw))) (hat w hw)
  have hk' : (Cond.classLink own ik cls).before args s' = true := vx_ot_at hW0 hvm.symm (hgood _ List.mem_cons_self) hk
  have hini' : (Cond.initialized cls).before args s' = true := vx_ot_at hW0 hvm.symm (hgood _ (List.mem_cons_of_mem _ List.mem_cons_self)) hini
  have hU' : vx_Zq Bundle.tN "UNASSIGNED_STACK" Bundle.steD A s' s'.heap := by rw [hhp]; exact vx_Zq.moved hW0.alike (hU.kept hS.2.1)
  have hN' : vx_Zq Bundle.tN "SUPPRESSED_SENTINEL" Bundle.listD A s' s'.heap := by rw [hhp]; exact vx_Zq.moved hW0.alike (hN.kept hS.2.1)
  have h : ∀ w ∈ Bundle.ownAtoms own ic cls names, w.before args s' = true := vx_own hat' (vx_isRefq hU'.1) (vx_isRefq hN'.1) hU'.2.word hN'.2.word
  have hown' : s'.vm.findClass own = some m.cls := by rw [hvm]; exact hown
  have hins : (Cond.instantiable cls 6).before args s' = true := h _ (by simp [Bundle.ownAtoms])
  obtain ⟨vm₁, cX, kX, hfX, hkX, -, -, X₁, st1⟩ := Y.newCold hexec (own := own) (C := cls) (index := ik) (n := 6) hown' hk' hins hini'
    (g := F0 m pc ls rest) rfl (by rw [hb]; exact d0) (Nat.le_refl _) (Nat.le_refl _)
  generalize hT1 : (T.setVm vm₁).pushCell { cls := cX, slots := kX.instanceTypes.map defaultValue, vm := .none } = T1 at X₁ st1
  have hcat : (Value.ref T.heap.size).category = 1 := rfl
  have hcellA : T1.heap[T.heap.size]? = some (freshCell cX kX) := by rw [← hT1]; exact State.heap_pushCell_size _ _
  have d3' : decode c.code (pc + 3) = .ok (.dup, 1) := by rw [hb]; exact d3
  have d4' : decode c.code (pc + 4) = .ok (.ldc_w is, 3) := by rw [hb]; exact d4
  have hstr' : vk_R own is text sa s' := vk_R.warm hW0 hstr
  obtain ⟨U, hsteps, hrun, hend, hW, hsame, ce, hce, hO⟩ := X₁.ctorThrowS hexec htr (own := own) (cls := cls) (names := names) (ic := ic) hown' hcls hnames h (fun x hx => nomatch hx) hfX hkX hcellA (by rw [hhp, hT]; exact Nat.le_refl _) (msg := .ref sa) rfl
    (g := { method := m, pc := pc + 7, locals := ls, stack := .ref sa :: .ref T.heap.size :: .ref T.heap.size :: rest, locked := none }) rfl hsize rfl rfl (rest := rest) rfl
    (by rw [hb]; exact d7) (by rw [hb]; exact d10) hout hRframes (by simp only [List.map_cons, List.sum_cons, hcat]; omega) hlocks
  obtain ⟨f1, f2⟩ := vx_frame hsame
  rw [hhp] at f1 f2
  have hWs : s.WarmedH U.vm := State.WarmedH.trans hW0 hW
  have hcl : s.vm.findClass cls = some ce.cls := by
    have h9 := hO.cls
    rw [hvm] at h9
    exact h9
  have hall : s.sameButNew ({ U with vm := s.vm } : State) locs mc ms := by
    subst hA
    obtain ⟨e1, e2⟩ := hsame
    rw [State.setFrames_setFrames] at e1
    have h2 : (T.setVm s.vm).sameButNew ({ U with vm := s.vm } : State) [] (0 + 1) (0 + 6) := ⟨e1, e2⟩
    have h3 := X.same.trans h2
    rw [List.append_nil] at h3
    exact h3.mono hc hs
  refine ⟨U, ?_, .threw T.heap.size, hrun, hend, Or.inr ⟨T.heap.size, rfl, cls, ce, locs, hx U hWs.alike f1 (fun q hq => f2 q hq (fun z hz => nomatch hz)), hce, hO.vm, hcl, hWs, hall, hf⟩⟩
  refine st1 _ ?_
  show Steps p.tables e below (T1.setTop { method := m, pc := pc + 3, locals := ls, stack := .ref T.heap.size :: rest, locked := none }) _
  jvm_step X₁.here [X₁.here.top, hexec, d3', Value.category]
  exact X₁.ldcStringW hexec (own := own) (text := text) (index := is) (a := sa) hown' hstr'.1 hstr'.2
    (g := { method := m, pc := pc + 4, locals := ls, stack := .ref T.heap.size :: .ref T.heap.size :: rest, locked := none }) rfl d4' _ hsteps
end Ends
section Bodies
variable {l : Launch}
theorem vx_ofW {y : MethodName} {ws ws' : List Cond} {rm : Room} {Pc : Array Value → State → Prop} {Qc : Array Value → State → Outcome → State → Prop} {XC : String → State → State → Prop} {mc ms : Nat} {free : Addr → Prop} {cc : ByteArray} {maxL : Nat} {ret : Option FieldType}
    (hy : plainName y.cls = true) (hw : ws = Cond.code y cc maxL ret :: ws')
    (body : ∀ p e s m args below meth c s₁, BodyLoose p l y (headSpec ws rm) cc maxL ret e s m args below meth c s₁ → c.maxLocals = maxL → (∀ x ∈ c.exceptionTable.toList, False) → Pc args s →
      W p l e (headSpec ws rm).room s m args below meth c s.heap [] 0 0 (vx_MQ below Qc XC args s mc ms free) (entryFrame m args maxL)) : vx_Met l y ws rm Pc Qc XC mc ms free := by
  refine MetFree.of_bodyS (code := cc) (maxLocals := maxL) (ret := ret) hy ?_ ?_
  · intro args s m h hn
    obtain ⟨meth, c, h1, h2, h3, h4, h5, h6, -, -⟩ := Cond.code_spec hn (atoms_spec (ws := ws) h _ (by rw [hw]; exact List.mem_cons_self))
    exact ⟨meth, c, h1, h2, h3, h4, h5, h6⟩
  · intro p e s m args below meth c s₁ B hml hP _
    have hh0 : s₁.heap = s.heap := by rw [B.state]; rfl
    have ht : ∀ x ∈ c.exceptionTable.toList, False := by
      obtain ⟨meth9, c9, h1, h2, -, -, -, -, h7, -⟩ := Cond.code_spec B.named (atoms_spec (ws := ws) B.pre _ (by rw [hw]; exact List.mem_cons_self))
      cases Option.some.inj (h1.symm.trans B.method)
      cases Option.some.inj (h2.symm.trans (Stand.of_body B).code)
      intro x hx
      rw [Array.isEmpty_iff.mp h7] at hx
      cases hx
    obtain ⟨t, a1, o, b1, b2, b3⟩ := body p e s m args below meth c s₁ B hml ht hP s₁ hh0 (Stand.of_body B)
    exact ⟨t, o, a1, b1, b2, b3⟩
/-- the table of a body with handlers -/
theorem vx_table {p : Program} {x y : MethodName} {S : Spec} {cc bytes : ByteArray} {maxL maxL' : Nat} {ret ret' : Option FieldType} {e : Env} {s s₁ : State} {m : MethodId} {args : Array Value} {below : List Frame} {meth : Method} {c : Code} {hh : List (Nat × Nat × Nat × Nat)}
    (B : BodyLoose p l y S cc maxL ret e s m args below meth c s₁) (h : (Cond.codeWith y bytes maxL' ret' hh).before args s = true) : c.exceptionTable.toList = tableOf hh := by
  obtain ⟨m9, meth9, c9, hn9, h1, h2, -, -, h6, -⟩ := Cond.codeWith_spec h
  cases Option.some.inj (hn9.symm.trans B.named)
  cases Option.some.inj (h1.symm.trans B.method)
  cases Option.some.inj (h2.symm.trans (Stand.of_body B).code)
  rw [← h6, table_eq]
end Bodies
end VXA
/-! ===== END ===== -/
/-! ===== BEGIN a static call of a method with an exception table ===== -/
section VXS
variable {p : Program} {l : Launch} {e : Env} {R : Room} {s : State} {m : MethodId} {args : Array Value} {below : List Frame} {meth : Method} {c : Code} {T : State} {H : Heap} {locs : List Loc} {cells slots : Nat}
abbrev vx_CSW (R : Room) (s : State) (args : Array Value) (own : String) (index : Nat) (y : MethodName) (bytes : ByteArray) (maxL : Nat) (ret : Option FieldType) (hh : List (Nat × Nat × Nat × Nat)) (ws : List Cond) (rm : Room) (mc ms n : Nat) : Prop :=
  (rm.cells = mc ∧ rm.slots = ms ∧ rm.frames + 1 ≤ R.frames ∧ 8 + (maxL + 11) + rm.locals ≤ R.locals ∧ (∀ w ∈ ws, ∀ (a' : Array Value) (U : State), s.WarmedH U.vm → w.before a' U = true) ∧ Cond.codeWith y bytes maxL ret hh ∈ ws) ∧
  (Cond.codeWith y bytes maxL ret hh).before args s = true ∧ (Cond.initialized y.cls).before args s = true ∧ (y.cls ≠ "java/lang/invoke/MethodHandle" ∧ y.cls ≠ "java/lang/invoke/VarHandle") ∧
  (∀ sig, parseMethodDescriptor y.desc = some sig → n = sig.parameters.length) ∧ (Cond.methodLink own index y).before args s = true ∧ (Cond.static y).before args s = true
theorem vx_cwSW {own : String} {index maxL mc ms : Nat} {y : MethodName} {bytes : ByteArray} {ret : Option FieldType} {hh : List (Nat × Nat × Nat × Nat)} {Ts ws ws' : List Cond} {rm : Room} (n : Nat) (ht : ∀ w ∈ Ts, w.before args s = true) (hT : GoodIn Ts (va_wsS own index y ws)) (hw : ws = Cond.codeWith y bytes maxL ret hh :: ws') (hrc : rm.cells = mc) (hrs : rm.slots = ms)
    (hd : y.cls ≠ "java/lang/invoke/MethodHandle" ∧ y.cls ≠ "java/lang/invoke/VarHandle" ∧ (parseMethodDescriptor y.desc).map (fun d => d.parameters.length) = some n) (hR : rm.frames + 1 ≤ R.frames ∧ 8 + (maxL + 11) + rm.locals ≤ R.locals) :
    vx_CSW R s args own index y bytes maxL ret hh ws rm mc ms n := by
  have ok : ∀ w ∈ va_wsS own index y ws, w.before args s = true := fun w h => ht w (hT w h).1
  have hG : GoodIn Ts ws := fun w h => hT w (by unfold va_wsS; exact List.mem_append_right _ h)
  have hc : Cond.codeWith y bytes maxL ret hh ∈ ws := by rw [hw]; exact List.mem_cons_self
  refine ⟨⟨hrc, hrs, hR.1, hR.2, pay_in ht hG, hc⟩, ht _ (hG _ hc).1, ok _ (by simp [va_wsS]), ⟨hd.1, hd.2.1⟩, fun sig h => ?_, ok _ (by simp [va_wsS]), ok _ (by simp [va_wsS])⟩
  have h2 := hd.2.2
  rw [h] at h2
  exact (Option.some.inj h2).symm
theorem vx_callSW (X : Stand p l e R s m args below meth c T locs cells slots) (hexec : p.tables.exec = Jvm.exec) {own : String} {index : Nat} {y : MethodName} {bytes : ByteArray} {maxL : Nat} {ret : Option FieldType} {hh : List (Nat × Nat × Nat × Nat)}
    (hown : s.vm.findClass own = some m.cls) (hlink : (Cond.methodLink own index y).before args s = true) (hstat : (Cond.static y).before args s = true) (hinit : (Cond.initialized y.cls).before args s = true)
    (hcode : (Cond.codeWith y bytes maxL ret hh).before args s = true) (hy : y.cls ≠ "java/lang/invoke/MethodHandle" ∧ y.cls ≠ "java/lang/invoke/VarHandle")
    {W9 : Nat} {Pre : Pt → Array Value → Prop} {Post : Pt → Array Value → Option Value → Pt → Prop} (hK : Back l R p e below s args y 3 W9 Pre Post)
    {g : JFrame} (hg : g.method = m) (hsize : g.locals.size = c.maxLocals) {argsL rest : List Value} (hlen : ∀ sig, parseMethodDescriptor y.desc = some sig → argsL.length = sig.parameters.length)
    (hstack : g.stack = argsL.reverse ++ rest) (hW : 2 * g.monitorRoom + (rest.map fun v => v.category).sum ≤ W9) (hdg : decode c.code g.pc = .ok (.invokestatic index, 3))
    (hpre : ∀ vm₁, s.WarmedH vm₁ → Pre ⟨T.setVm vm₁, locs, cells, slots⟩ argsL.toArray) :
    ∃ (v : Option Value) (vm₁ : Vm) (B : Pt), s.WarmedH vm₁ ∧ Stand p l e R s m args below meth c B.U B.locs B.cells B.slots ∧ Post ⟨T.setVm vm₁, locs, cells, slots⟩ argsL.toArray v B ∧
      ∀ target, Steps p.tables e below (B.U.setTop { g with pc := g.pc + 3, stack := v.toList ++ rest }) target → Steps p.tables e below (T.setTop g) target := by
  obtain ⟨mk, methM, cM, hnamed, hmethM, -, -, -, -, -, -, hsigM⟩ := Cond.codeWith_spec hcode
  have hstatic : methM.isStatic = true := Cond.static_spec hnamed hmethM hstat
  obtain ⟨kP, hkP, -⟩ := className_of_methodNamed hnamed
  have hinitP : kP.init = .initialized := Cond.initialized_spec (findClass_of_methodNamed hnamed) hkP hinit
  obtain ⟨vm₁, X₁, hstep₁⟩ := X.invokestatic hexec hown hlink hnamed hmethM hstatic hkP hinitP hy (g := g) hg (argsL := argsL) (rest := rest) (hlen _ hsigM) hstack hdg
  obtain ⟨v, B, X', hpost, hsteps⟩ := hK m meth c ⟨T.setVm vm₁, locs, cells, slots⟩ { g with stack := rest } (.invokestatic index) mk argsL.toArray X₁ hg hsize hdg hW (X₁.named hnamed) (hpre vm₁ X₁.warmed)
  exact ⟨v, vm₁, B, X₁.warmed, X', hpost, fun target h => hstep₁ _ fun acts => by rw [doInvoke_state]; exact hsteps.trans h⟩
theorem vx_runSW {y : MethodName} {bytes cc : ByteArray} {maxL nL mc ms n index : Nat} {ret : Option FieldType} {hh : List (Nat × Nat × Nat × Nat)} {ws : List Cond} {rm : Room} {Pc : Array Value → State → Prop} {Qc : Array Value → State → Outcome → State → Prop} {free : Addr → Prop} {Ts : List Cond} {own : String} {As rest : List Value} {g : JFrame}
    (S : CallFix p m c cc nL s args Ts own) (hM : Met l y ws rm Pc Qc mc ms free) (cw : vx_CSW R s args own index y bytes maxL ret hh ws rm mc ms n) (hp : PreS s H Pc As)
    (hg : g.method = m) (hn : As.length = n) (hsize : g.locals.size = nL) (hstack : g.stack = As.reverse ++ rest) (hW : 2 * g.monitorRoom + (rest.map fun v => v.category).sum ≤ 8) (hdg : decode cc g.pc = .ok (.invokestatic index, 3)) (hf : cells + mc ≤ R.cells ∧ slots + ms ≤ R.slots) :
    va_Run p l e R s m args below meth c H locs cells slots mc ms g rest (Qc As.toArray) (free) := by
  obtain ⟨⟨hrc, hrs, hfr, hlo, hws, hcw⟩, hcode, hini, hy, hlen, hl, hstt⟩ := cw
  have hK : Back l R p e below s args y 3 8 (PreOf R mc ms Pc) (PostOf Qc mc ms free) := va_backW (hh := hh) (bytes := bytes) (maxL := maxL) (ret := ret) hM hp.1 hrc hrs hfr hlo hws hcw (fun a' U hW => word_at hW (Or.inl (by first | rfl | simp [Cond.onTables, Cond.keeps, Cond.steady])) hini)
  obtain ⟨hx, hb, hml, ho, -⟩ := S
  intro T hT X
  obtain ⟨v, vm₁, ⟨U', l2, c2, s2⟩, hW₁, X', ⟨g', mk, t, L, e1, e2, hq, h1, hL, h2, h3⟩, st⟩ := vx_callSW X hx (hh := hh) (bytes := bytes) (maxL := maxL) (ret := ret) ho hl hstt hini hcode hy hK hg (hsize.trans hml.symm) (argsL := As) (rest := rest) (fun sig h => hn.trans (hlen sig h)) hstack hW (by rw [hb]; exact hdg)
    (fun vm₁ hW₁ => ⟨hf.1, hf.2, hp.2 (T.setVm vm₁) hT hW₁⟩)
  dsimp only [Pt.U, Pt.locs, Pt.cells, Pt.slots] at X' e1 e2 h1 h2 h3 st
  subst h1; subst h2; subst h3
  exact ⟨v, (T.setVm vm₁).calling g' mk As.toArray, t, U', L, hT, X', hL, e1, e2, hq, st⟩
/-- not caught here, past rows that name other classes: it goes on to the caller -/
theorem vx_outP {p : Program} {l : Launch} {e : Env} {R : Room} {s : State} {m : MethodId} {args : Array Value} {below : List Frame} {meth : Method} {c : Code} {H : Heap} {locs : List Loc} {cells slots : Nat} {free : Addr → Prop} {ls : Array Slot} {rest : List Value} {Qc : Array Value → State → Outcome → State → Prop} {XC : String → State → State → Prop}
    {pc : Nat} {own E : String} {ce : Cell} {q : Addr} {mc ms : Nat} (hown : s.vm.findClass own = some m.cls) (hlocks : meth.locks = false)
    (hpass : ∀ z ∈ c.exceptionTable.toList, covers z pc = false ∨ (z.catchType ≠ 0 ∧ ∃ nm : String, (Cond.classLink own z.catchType nm).before args s = true ∧ va_Nc E nm s)) (hcell : H[q]? = some ce) (hv : ce.vm = .none) (hcl : s.vm.findClass E = some ce.cls)
    (hx : ∀ t : State, t.heap = H → s.vm.Alike t.vm → XC E s t) (hf : ∀ z ∈ locs, free z.base) (hc : cells ≤ mc) (hs : slots ≤ ms) :
    vx_W p l e R s m args below meth c H locs cells slots (vx_MQ below Qc XC args s mc ms free) (F0 m pc ls rest) q := by
  intro T hT X
  have hpl : e.platform.magicAccessors = ({} : Platform).magicAccessors := by rw [X.admits.platform]
  obtain ⟨vm', hW', X', st⟩ := X.outThrough hlocks q (g := F0 m pc ls rest) rfl rfl rfl (cell := ce) (by rw [hT]; exact hcell) (by rw [hv]; rfl)
    (by obtain ⟨k9, h9, -⟩ := Vm.findClass_spec hcl; exact ⟨k9, h9⟩) (fun z hz => by
      rcases hpass z hz with h | ⟨hz0, nm, hl1, hn1⟩
      · exact Or.inl h
      · obtain ⟨c6, hc6, hcl6⟩ := Cond.classLink_spec hown hl1 e.platform hpl
        obtain ⟨a8, b8, h1, h2, h3⟩ := hn1
        cases Option.some.inj (h1.symm.trans hcl)
        cases Option.some.inj (h2.symm.trans hc6)
        exact Or.inr ⟨hz0, _, hcl6, h3⟩)
  obtain ⟨g₀, hfr⟩ := X'.frames_eq
  have hcell9 : ((T.setVm vm').setFrames (.throwing q :: below)).heap[q]? = some ce := by
    show T.heap[q]? = some ce
    rw [hT]; exact hcell
  have hend : Ended ((T.setVm vm').setFrames (.throwing q :: below)) below (.threw q) := State.frames_setFrames _ (State.cur_lt_of_frames hfr)
  refine ⟨(T.setVm vm').setFrames (.throwing q :: below), ?_, .threw q, X'.here.running, hend, Or.inr ⟨q, rfl, E, ce, locs, hx _ hT (X'.ends _).1.alike, hcell9, hv, hcl, (X'.ends _).1, (X'.ends _).2.mono hc hs, hf⟩⟩
  rw [X.pushThrowing_eq]
  exact st
/-- a thing of a world lies in the heap -/
theorem vx_lt {D : va_G} {cl : List vw_C} {ws : va_W} {H1 : Heap} (h : va_P D cl ws H1) {k : Nat} {q : Nat × va_E} (hk : ws[k]? = some q) : q.1 < H1.size := (h k q hk).lt
end VXS
/-! ===== END ===== -/
/-! ===== BEGIN methods with a table of their own: called by a name, returning or throwing ===== -/
section VXH
/-! vx_backW, vx_callVX, vx_callSX, vx_callVW, vx_runVW, vx_runVX, vx_runSX, vx_ofWH follow the same proofs as their sisters above (Free/Laws.lean, Shelf42/LK1.lean); vx_outP calls Shelf42/NT130.lean (outThrough). -/
section
variable {l : Launch} {R : Room} {p : Program} {e : Env} {below : List Frame} {s : State} {sargs : Array Value} {y : MethodName} {len W9 : Nat}
theorem vx_backW {ws : List Cond} {rm : Room} {Pc : Array Value → State → Prop} {Qc : Array Value → State → Outcome → State → Prop} {XC : String → State → State → Prop} {mc ms : Nat} {free : Addr → Prop} {bytes : ByteArray} {maxL : Nat} {ret : Option FieldType} {hh : List (Nat × Nat × Nat × Nat)}
    (hM : vx_Met l y ws rm Pc Qc XC mc ms free) (hblind : FrameBlind Pc) (hrc : rm.cells = mc) (hrs : rm.slots = ms)
    (hframes : rm.frames + 1 ≤ R.frames) (hlocals : W9 + (maxL + 11) + rm.locals ≤ R.locals)
    (hws : ∀ w ∈ ws, ∀ a' U, s.WarmedH U.vm → w.before a' U = true) (hcode : Cond.codeWith y bytes maxL ret hh ∈ ws) (hinit : ∀ a' U, s.WarmedH U.vm → (Cond.initialized y.cls).before a' U = true) :
    vx_Back l R p e below s sargs y len W9 (PreOf R mc ms Pc) (PostOf Qc mc ms free) (vx_Post XC mc ms free) := by
  intro m meth c A g ig mk a X hg hsize hdg hW hn hp
  have h1 : (headSpec ws rm).pre.before a A.U = true := atoms_intro fun w hw => hws w hw _ _ X.warmed
  have h2 : (Cond.codeWith y bytes maxL ret hh).before a A.U = true := hws _ hcode _ _ X.warmed
  have h3 : (Cond.initialized y.cls).before a A.U = true := hinit _ _ X.warmed
  have h4 : A.cells + (headSpec ws rm).room.cells ≤ R.cells := by rw [show (headSpec ws rm).room.cells = mc from hrc]; exact hp.1
  have h5 : A.slots + (headSpec ws rm).room.slots ≤ R.slots := by rw [show (headSpec ws rm).room.slots = ms from hrs]; exact hp.2.1
  have hPc : Pc a (A.U.calling g mk a) := hblind _ _ _ _ hp.2.2
  obtain ⟨U, Ls, c0, s0⟩ := A
  dsimp only [Pt.U, Pt.locs, Pt.cells, Pt.slots] at h1 h2 h3 h4 h5 X hn hPc ⊢
  obtain ⟨m9, methY, cY, hn9, hmY, hcY, -, hlY, -⟩ := Cond.codeWith_spec h2
  cases Option.some.inj (hn9.symm.trans hn)
  obtain ⟨kY, hkY, -⟩ := className_of_methodNamed hn
  have hinitY : kY.init = .initialized := Cond.initialized_spec (findClass_of_methodNamed hn) hkY h3
  have h : At U g.method c below := by rw [hg]; exact X.here
  have hlocals9 : W9 + (maxL + 11) + (headSpec ws rm).room.locals ≤ R.locals := hlocals
  have happ : (headSpec ws rm).appliesLoose y e.platform (U.calling g mk a) = true :=
    Spec.appliesLoose_calling (g := g) h hdg hn hkY hinitY
      (X.room_calling (g := g) (R' := (headSpec ws rm).room) hsize hmY hcY hframes (by rw [hlY]; omega) h4 h5) h1
  obtain ⟨mid, hmid⟩ := h.above
  have hfr : (U.setTop g).frames = (.java g :: mid) ++ below := by rw [State.frames_setTop' g h.top, hmid]; rfl
  obtain ⟨o, s₂, hsteps, -, hend, hq⟩ := Steps.callFree hM p X.admits X.cas X.clock (acts := []) hfr happ hPc trivial
  have hq' : vx_Q Qc XC mc ms free a (U.calling g mk a) o s₂ := hq
  rw [State.frames_setTop' g h.top] at hend
  obtain ⟨g₀, hg0⟩ := Option.isSome_iff_exists.mp h.top
  obtain ⟨r, hr⟩ := State.topJava?_eq_some.mp hg0
  have hr' : (({ U with heap := s₂.heap, slotsUsed := s₂.slotsUsed } : State).setVm s₂.vm).frames = .java g₀ :: r := hr
  rcases hq' with ⟨hqc, L, hfe, hL⟩ | ⟨q, rfl, E, ce, L, hx, hce, hcv, hcl, hW₂, hsm, hL⟩
  · obtain ⟨⟨v, rfl⟩, hW₂, e2, q2, q3, q4, q5, q6⟩ := id hfe
    have e3 : s₂ = ({ (U.calling g mk a).setFrames s₂.frames with heap := s₂.heap, slotsUsed := s₂.slotsUsed } : State).setVm s₂.vm := by
      have : s₂ = ({ s₂ with vm := (U.calling g mk a).vm } : State).setVm s₂.vm := rfl
      rw [e2] at this
      exact this
    obtain ⟨c₂, i₂, len₂, hc₂, hd₂, hf₂⟩ := hend
    have hW' : U.WarmedH s₂.vm := hW₂
    have hcc : c₂ = c := by
      have h1 : s₂.code? g.method = U.code? g.method := by
        rw [State.code?_eq, State.code?_eq, hW'.alike.method?]
      exact Option.some.inj (hc₂.symm.trans (h1.trans h.code))
    subst hcc
    have hlen : len₂ = len := by rw [hdg] at hd₂; cases hd₂; rfl
    subst hlen
    have hs₂ : s₂ = (({ U with heap := s₂.heap, slotsUsed := s₂.slotsUsed } : State).setVm s₂.vm).setTop { g with pc := g.pc + len₂, stack := v.toList ++ g.stack } := by
      refine e3.trans ?_
      rw [hf₂, State.calling_eq h.top, State.setFrames_setFrames, State.setTop_of_frames _ hr', hr]
      rfl
    have hsame : U.sameButNew ({ U with heap := s₂.heap, slotsUsed := s₂.slotsUsed } : State) L mc ms := by
      refine ⟨?_, q2, q3, q4, q5, q6⟩
      obtain ⟨t, ht, -⟩ := State.frames_cons hr
      show ({ U with heap := s₂.heap, slotsUsed := s₂.slotsUsed } : State) = { U.setFrames U.frames with heap := s₂.heap, slotsUsed := s₂.slotsUsed }
      rw [State.setFrames_self ht]
    subst hg
    refine Or.inl ⟨v, ⟨(({ U with heap := s₂.heap, slotsUsed := s₂.slotsUsed } : State).setVm s₂.vm), Ls ++ L, c0 + mc, s0 + ms⟩,
      ⟨X.admits, X.cas, X.clock, X.frames, X.room, X.hears, X.method, X.code, (X.here.setHeapUsed s₂.heap s₂.slotsUsed).setVm hW'.alike, X.tail, State.WarmedH.trans X.warmed hW', X.limits, X.bytes, X.same.trans (hsame.setVm s.vm)⟩,
      ⟨g, mk, s₂, L, rfl, rfl, hqc, rfl, hL, rfl, rfl⟩, ?_⟩
    show Steps p.tables e below _ ((({ U with heap := s₂.heap, slotsUsed := s₂.slotsUsed } : State).setVm s₂.vm).setTop { g with pc := g.pc + len₂, stack := v.toList ++ g.stack })
    rw [← hs₂]
    exact hsteps
  · obtain ⟨e2, q2, q3, q4, q5, q6⟩ := id hsm
    have e3 : s₂ = ({ (U.calling g mk a).setFrames s₂.frames with heap := s₂.heap, slotsUsed := s₂.slotsUsed } : State).setVm s₂.vm := by
      have : s₂ = ({ s₂ with vm := (U.calling g mk a).vm } : State).setVm s₂.vm := rfl
      rw [e2] at this
      exact this
    have hf₂ : s₂.frames = .throwing q :: .java g :: U.frames.tail := hend
    have hW' : U.WarmedH s₂.vm := hW₂
    have hs₂ : s₂ = ((({ U with heap := s₂.heap, slotsUsed := s₂.slotsUsed } : State).setVm s₂.vm).setTop g).pushFrame (.throwing q) := by
      refine e3.trans ?_
      rw [hf₂, State.calling_eq h.top, State.setFrames_setFrames, State.pushFrame, State.frames_setTop _ hr', State.setTop_of_frames _ hr', State.setFrames_setFrames, hr]
      rfl
    have hsame : U.sameButNew ({ U with heap := s₂.heap, slotsUsed := s₂.slotsUsed } : State) L mc ms := by
      refine ⟨?_, q2, q3, q4, q5, q6⟩
      obtain ⟨t, ht, -⟩ := State.frames_cons hr
      show ({ U with heap := s₂.heap, slotsUsed := s₂.slotsUsed } : State) = { U.setFrames U.frames with heap := s₂.heap, slotsUsed := s₂.slotsUsed }
      rw [State.setFrames_self ht]
    subst hg
    refine Or.inr ⟨q, ⟨(({ U with heap := s₂.heap, slotsUsed := s₂.slotsUsed } : State).setVm s₂.vm), Ls ++ L, c0 + mc, s0 + ms⟩,
      ⟨X.admits, X.cas, X.clock, X.frames, X.room, X.hears, X.method, X.code, (X.here.setHeapUsed s₂.heap s₂.slotsUsed).setVm hW'.alike, X.tail, State.WarmedH.trans X.warmed hW', X.limits, X.bytes, X.same.trans (hsame.setVm s.vm)⟩,
      ⟨g, mk, s₂, L, E, ce, rfl, rfl, hx, hce, hcv, hcl, rfl, hL, rfl, rfl⟩, ?_⟩
    show Steps p.tables e below _ (((({ U with heap := s₂.heap, slotsUsed := s₂.slotsUsed } : State).setVm s₂.vm).setTop g).pushFrame (.throwing q))
    rw [← hs₂]
    exact hsteps
end
variable {p : Program} {l : Launch} {e : Env} {R : Room} {s : State} {m : MethodId} {args : Array Value} {below : List Frame} {meth : Method} {c : Code} {T : State} {H : Heap} {locs : List Loc} {cells slots : Nat}
theorem vx_callVX (X : Stand p l e R s m args below meth c T locs cells slots) (hexec : p.tables.exec = Jvm.exec) {own C : String} {index : Nat} {y : MethodName} {bytes : ByteArray} {maxL : Nat} {ret : Option FieldType} {hh : List (Nat × Nat × Nat × Nat)}
    (hown : s.vm.findClass own = some m.cls) (hlink : (Cond.methodLink own index y).before args s = true) (hinst : (Cond.instanceMethod y).before args s = true) (hsel : (Cond.selects C y y).before args s = true)
    (hcode : (Cond.codeWith y bytes maxL ret hh).before args s = true) (hy : y.cls ≠ "java/lang/invoke/MethodHandle" ∧ y.cls ≠ "java/lang/invoke/VarHandle")
    {W9 : Nat} {Pre : Pt → Array Value → Prop} {Post : Pt → Array Value → Option Value → Pt → Prop} {PostX : Pt → Array Value → Addr → Pt → Prop} (hK : vx_Back l R p e below s args y 3 W9 Pre Post PostX)
    {b : Addr} {cellB : Cell} (hcell : T.heap[b]? = some cellB) (hobj : cellB.vm.isStatics = false) (hcls : s.vm.findClass C = some cellB.cls)
    {g : JFrame} (hg : g.method = m) (hsize : g.locals.size = c.maxLocals) {argsL rest : List Value} (hlen : ∀ sig, parseMethodDescriptor y.desc = some sig → argsL.length = sig.parameters.length)
    (hstack : g.stack = argsL.reverse ++ .ref b :: rest) (hW : 2 * g.monitorRoom + (rest.map fun v => v.category).sum ≤ W9) (hdg : decode c.code g.pc = .ok (.invokevirtual index, 3))
    (hpre : ∀ vm₁, s.WarmedH vm₁ → Pre ⟨T.setVm vm₁, locs, cells, slots⟩ (Value.ref b :: argsL).toArray) :
    (∃ (v : Option Value) (vm₁ : Vm) (B : Pt), s.WarmedH vm₁ ∧ Stand p l e R s m args below meth c B.U B.locs B.cells B.slots ∧ Post ⟨T.setVm vm₁, locs, cells, slots⟩ (Value.ref b :: argsL).toArray v B ∧
      ∀ target, Steps p.tables e below (B.U.setTop { g with pc := g.pc + 3, stack := v.toList ++ rest }) target → Steps p.tables e below (T.setTop g) target) ∨
    (∃ (q : Addr) (vm₁ : Vm) (B : Pt), s.WarmedH vm₁ ∧ Stand p l e R s m args below meth c B.U B.locs B.cells B.slots ∧ PostX ⟨T.setVm vm₁, locs, cells, slots⟩ (Value.ref b :: argsL).toArray q B ∧
      Steps p.tables e below (T.setTop g) ((B.U.setTop { g with stack := rest }).pushFrame (.throwing q))) := by
  obtain ⟨mk, methM, hnamed, hmethM, hstM, habM⟩ := Cond.instanceMethod_spec hinst
  obtain ⟨m8, methM', cM, hn8, hmethM', -, -, -, -, -, -, hsigM⟩ := Cond.codeWith_spec hcode
  cases Option.some.inj (hn8.symm.trans hnamed)
  cases hmethM.symm.trans hmethM'
  obtain ⟨c2, r2, m2, q1, q2, q3, q4, kP, hkP, hkPi⟩ := Cond.selects_spec hsel
  cases hcls.symm.trans q1
  cases (State.methodFound?_of_named hnamed hy).symm.trans q2
  cases hnamed.symm.trans q3
  have hselP : selectMethod e.platform s.vm cellB.cls mk = .method mk := by rw [Launch.admits_selectMethod X.admits]; exact q4
  obtain ⟨vm₁, X₁, hstep₁⟩ := X.invokevirtual hexec hown hlink hnamed hmethM hstM hkP hkPi hy (a := b) (cell := cellB) hcell
    (fun z h => by rw [h] at hobj; cases hobj) hselP hmethM habM hkP hkPi (g := g) hg (argsL := argsL) (rest := rest) (hlen _ hsigM) hstack hdg
  rcases hK m meth c ⟨T.setVm vm₁, locs, cells, slots⟩ { g with stack := rest } (.invokevirtual index) mk (Value.ref b :: argsL).toArray X₁ hg hsize hdg hW (X₁.named hnamed) (hpre vm₁ X₁.warmed) with ⟨v, B, X', hpost, hsteps⟩ | ⟨q, B, X', hpost, hsteps⟩
  · exact Or.inl ⟨v, vm₁, B, X₁.warmed, X', hpost, fun target h => hstep₁ _ fun acts => by rw [doInvoke_state]; exact hsteps.trans h⟩
  · exact Or.inr ⟨q, vm₁, B, X₁.warmed, X', hpost, hstep₁ _ fun acts => by rw [doInvoke_state]; exact hsteps⟩
theorem vx_callSX (X : Stand p l e R s m args below meth c T locs cells slots) (hexec : p.tables.exec = Jvm.exec) {own : String} {index : Nat} {y : MethodName} {bytes : ByteArray} {maxL : Nat} {ret : Option FieldType} {hh : List (Nat × Nat × Nat × Nat)}
    (hown : s.vm.findClass own = some m.cls) (hlink : (Cond.methodLink own index y).before args s = true) (hstat : (Cond.static y).before args s = true) (hinit : (Cond.initialized y.cls).before args s = true)
    (hcode : (Cond.codeWith y bytes maxL ret hh).before args s = true) (hy : y.cls ≠ "java/lang/invoke/MethodHandle" ∧ y.cls ≠ "java/lang/invoke/VarHandle")
    {W9 : Nat} {Pre : Pt → Array Value → Prop} {Post : Pt → Array Value → Option Value → Pt → Prop} {PostX : Pt → Array Value → Addr → Pt → Prop} (hK : vx_Back l R p e below s args y 3 W9 Pre Post PostX)
    {g : JFrame} (hg : g.method = m) (hsize : g.locals.size = c.maxLocals) {argsL rest : List Value} (hlen : ∀ sig, parseMethodDescriptor y.desc = some sig → argsL.length = sig.parameters.length)
    (hstack : g.stack = argsL.reverse ++ rest) (hW : 2 * g.monitorRoom + (rest.map fun v => v.category).sum ≤ W9) (hdg : decode c.code g.pc = .ok (.invokestatic index, 3))
    (hpre : ∀ vm₁, s.WarmedH vm₁ → Pre ⟨T.setVm vm₁, locs, cells, slots⟩ argsL.toArray) :
    (∃ (v : Option Value) (vm₁ : Vm) (B : Pt), s.WarmedH vm₁ ∧ Stand p l e R s m args below meth c B.U B.locs B.cells B.slots ∧ Post ⟨T.setVm vm₁, locs, cells, slots⟩ argsL.toArray v B ∧
      ∀ target, Steps p.tables e below (B.U.setTop { g with pc := g.pc + 3, stack := v.toList ++ rest }) target → Steps p.tables e below (T.setTop g) target) ∨
    (∃ (q : Addr) (vm₁ : Vm) (B : Pt), s.WarmedH vm₁ ∧ Stand p l e R s m args below meth c B.U B.locs B.cells B.slots ∧ PostX ⟨T.setVm vm₁, locs, cells, slots⟩ argsL.toArray q B ∧
      Steps p.tables e below (T.setTop g) ((B.U.setTop { g with stack := rest }).pushFrame (.throwing q))) := by
  obtain ⟨mk, methM, cM, hnamed, hmethM, -, -, -, -, -, -, hsigM⟩ := Cond.codeWith_spec hcode
  have hstatic : methM.isStatic = true := Cond.static_spec hnamed hmethM hstat
  obtain ⟨kP, hkP, -⟩ := className_of_methodNamed hnamed
  have hinitP : kP.init = .initialized := Cond.initialized_spec (findClass_of_methodNamed hnamed) hkP hinit
  obtain ⟨vm₁, X₁, hstep₁⟩ := X.invokestatic hexec hown hlink hnamed hmethM hstatic hkP hinitP hy (g := g) hg (argsL := argsL) (rest := rest) (hlen _ hsigM) hstack hdg
  rcases hK m meth c ⟨T.setVm vm₁, locs, cells, slots⟩ { g with stack := rest } (.invokestatic index) mk argsL.toArray X₁ hg hsize hdg hW (X₁.named hnamed) (hpre vm₁ X₁.warmed) with ⟨v, B, X', hpost, hsteps⟩ | ⟨q, B, X', hpost, hsteps⟩
  · exact Or.inl ⟨v, vm₁, B, X₁.warmed, X', hpost, fun target h => hstep₁ _ fun acts => by rw [doInvoke_state]; exact hsteps.trans h⟩
  · exact Or.inr ⟨q, vm₁, B, X₁.warmed, X', hpost, hstep₁ _ fun acts => by rw [doInvoke_state]; exact hsteps⟩
theorem vx_callVW (X : Stand p l e R s m args below meth c T locs cells slots) (hexec : p.tables.exec = Jvm.exec) {own C : String} {index : Nat} {y : MethodName} {bytes : ByteArray} {maxL : Nat} {ret : Option FieldType} {hh : List (Nat × Nat × Nat × Nat)}
    (hown : s.vm.findClass own = some m.cls) (hlink : (Cond.methodLink own index y).before args s = true) (hinst : (Cond.instanceMethod y).before args s = true) (hsel : (Cond.selects C y y).before args s = true)
    (hcode : (Cond.codeWith y bytes maxL ret hh).before args s = true) (hy : y.cls ≠ "java/lang/invoke/MethodHandle" ∧ y.cls ≠ "java/lang/invoke/VarHandle")
    {W9 : Nat} {Pre : Pt → Array Value → Prop} {Post : Pt → Array Value → Option Value → Pt → Prop} (hK : Back l R p e below s args y 3 W9 Pre Post)
    {b : Addr} {cellB : Cell} (hcell : T.heap[b]? = some cellB) (hobj : cellB.vm.isStatics = false) (hcls : s.vm.findClass C = some cellB.cls)
    {g : JFrame} (hg : g.method = m) (hsize : g.locals.size = c.maxLocals) {argsL rest : List Value} (hlen : ∀ sig, parseMethodDescriptor y.desc = some sig → argsL.length = sig.parameters.length)
    (hstack : g.stack = argsL.reverse ++ .ref b :: rest) (hW : 2 * g.monitorRoom + (rest.map fun v => v.category).sum ≤ W9) (hdg : decode c.code g.pc = .ok (.invokevirtual index, 3))
    (hpre : ∀ vm₁, s.WarmedH vm₁ → Pre ⟨T.setVm vm₁, locs, cells, slots⟩ (Value.ref b :: argsL).toArray) :
    ∃ (v : Option Value) (vm₁ : Vm) (B : Pt), s.WarmedH vm₁ ∧ Stand p l e R s m args below meth c B.U B.locs B.cells B.slots ∧ Post ⟨T.setVm vm₁, locs, cells, slots⟩ (Value.ref b :: argsL).toArray v B ∧
      ∀ target, Steps p.tables e below (B.U.setTop { g with pc := g.pc + 3, stack := v.toList ++ rest }) target → Steps p.tables e below (T.setTop g) target := by
  obtain ⟨mk, methM, hnamed, hmethM, hstM, habM⟩ := Cond.instanceMethod_spec hinst
  obtain ⟨m8, methM', cM, hn8, hmethM', -, -, -, -, -, -, hsigM⟩ := Cond.codeWith_spec hcode
  cases Option.some.inj (hn8.symm.trans hnamed)
  cases hmethM.symm.trans hmethM'
  obtain ⟨c2, r2, m2, q1, q2, q3, q4, kP, hkP, hkPi⟩ := Cond.selects_spec hsel
  cases hcls.symm.trans q1
  cases (State.methodFound?_of_named hnamed hy).symm.trans q2
  cases hnamed.symm.trans q3
  have hselP : selectMethod e.platform s.vm cellB.cls mk = .method mk := by rw [Launch.admits_selectMethod X.admits]; exact q4
  obtain ⟨vm₁, X₁, hstep₁⟩ := X.invokevirtual hexec hown hlink hnamed hmethM hstM hkP hkPi hy (a := b) (cell := cellB) hcell
    (fun z h => by rw [h] at hobj; cases hobj) hselP hmethM habM hkP hkPi (g := g) hg (argsL := argsL) (rest := rest) (hlen _ hsigM) hstack hdg
  obtain ⟨v, B, X', hpost, hsteps⟩ := hK m meth c ⟨T.setVm vm₁, locs, cells, slots⟩ { g with stack := rest } (.invokevirtual index) mk (Value.ref b :: argsL).toArray X₁ hg hsize hdg hW (X₁.named hnamed) (hpre vm₁ X₁.warmed)
  exact ⟨v, vm₁, B, X₁.warmed, X', hpost, fun target h => hstep₁ _ fun acts => by rw [doInvoke_state]; exact hsteps.trans h⟩
abbrev vx_CVW (R : Room) (s : State) (args : Array Value) (own C : String) (index : Nat) (y : MethodName) (bytes : ByteArray) (maxL : Nat) (ret : Option FieldType) (hh : List (Nat × Nat × Nat × Nat)) (ws : List Cond) (rm : Room) (mc ms n : Nat) : Prop :=
  (rm.cells = mc ∧ rm.slots = ms ∧ rm.frames + 1 ≤ R.frames ∧ 8 + (maxL + 11) + rm.locals ≤ R.locals ∧ (∀ w ∈ ws, ∀ (a' : Array Value) (U : State), s.WarmedH U.vm → w.before a' U = true) ∧ Cond.codeWith y bytes maxL ret hh ∈ ws) ∧
  (Cond.codeWith y bytes maxL ret hh).before args s = true ∧ (Cond.initialized y.cls).before args s = true ∧ (y.cls ≠ "java/lang/invoke/MethodHandle" ∧ y.cls ≠ "java/lang/invoke/VarHandle") ∧
  (∀ sig, parseMethodDescriptor y.desc = some sig → n = sig.parameters.length) ∧ (Cond.methodLink own index y).before args s = true ∧ (Cond.instanceMethod y).before args s = true ∧ (Cond.selects C y y).before args s = true
theorem vx_cwVW {own C : String} {index maxL mc ms : Nat} {y : MethodName} {bytes : ByteArray} {ret : Option FieldType} {hh : List (Nat × Nat × Nat × Nat)} {Ts ws ws' : List Cond} {rm : Room} (n : Nat) (ht : ∀ w ∈ Ts, w.before args s = true) (hT : GoodIn Ts (wsV own index C y ws)) (hw : ws = Cond.codeWith y bytes maxL ret hh :: ws') (hrc : rm.cells = mc) (hrs : rm.slots = ms)
    (hd : y.cls = C ∧ y.cls ≠ "java/lang/invoke/MethodHandle" ∧ y.cls ≠ "java/lang/invoke/VarHandle" ∧ (parseMethodDescriptor y.desc).map (fun d => d.parameters.length) = some n) (hR : rm.frames + 1 ≤ R.frames ∧ 8 + (maxL + 11) + rm.locals ≤ R.locals) :
    vx_CVW R s args own C index y bytes maxL ret hh ws rm mc ms n := by
  obtain ⟨hC, hd⟩ := hd
  subst hC
  have ok : ∀ w ∈ wsV own index y.cls y ws, w.before args s = true := fun w h => ht w (hT w h).1
  have hG : GoodIn Ts ws := fun w h => hT w (by unfold wsV; exact List.mem_append_right _ h)
  have hc : Cond.codeWith y bytes maxL ret hh ∈ ws := by rw [hw]; exact List.mem_cons_self
  refine ⟨⟨hrc, hrs, hR.1, hR.2, pay_in ht hG, hc⟩, ht _ (hG _ hc).1, ok _ (by simp [wsV]), ⟨hd.1, hd.2.1⟩, fun sig h => ?_, ok _ (by simp [wsV]), ok _ (by simp [wsV]), ok _ (by simp [wsV])⟩
  have h2 := hd.2.2
  rw [h] at h2
  exact (Option.some.inj h2).symm
theorem vx_runVW {y : MethodName} {bytes cc : ByteArray} {maxL nL mc ms n index : Nat} {ret : Option FieldType} {hh : List (Nat × Nat × Nat × Nat)} {ws : List Cond} {rm : Room} {Pc : Array Value → State → Prop} {Qc : Array Value → State → Outcome → State → Prop} {free : Addr → Prop} {Ts : List Cond} {own C : String} {b : Addr} {As rest : List Value} {g : JFrame}
    (S : CallFix p m c cc nL s args Ts own) (hM : Met l y ws rm Pc Qc mc ms free) (cw : vx_CVW R s args own C index y bytes maxL ret hh ws rm mc ms n) (hp : PreV s H C b Pc As)
    (hg : g.method = m) (hn : As.length = n) (hsize : g.locals.size = nL) (hstack : g.stack = As.reverse ++ .ref b :: rest) (hW : 2 * g.monitorRoom + (rest.map fun v => v.category).sum ≤ 8) (hdg : decode cc g.pc = .ok (.invokevirtual index, 3)) (hf : cells + mc ≤ R.cells ∧ slots + ms ≤ R.slots) :
    va_Run p l e R s m args below meth c H locs cells slots mc ms g rest (Qc (Value.ref b :: As).toArray) free := by
  obtain ⟨⟨hrc, hrs, hfr, hlo, hws, hcw⟩, hcode, hini, hy, hlen, hl, hin, hse⟩ := cw
  have hK : Back l R p e below s args y 3 8 (PreOf R mc ms Pc) (PostOf Qc mc ms free) := va_backW (hh := hh) (bytes := bytes) (maxL := maxL) (ret := ret) hM hp.1 hrc hrs hfr hlo hws hcw (fun a' U hW => word_at hW (Or.inl (by first | rfl | simp [Cond.onTables, Cond.keeps, Cond.steady])) hini)
  obtain ⟨hx, hb, hml, ho, -⟩ := S
  obtain ⟨-, ⟨cellB, hcB, hoB, hclB⟩, hPc⟩ := hp
  intro T hT X
  obtain ⟨v, vm₁, ⟨U', l2, c2, s2⟩, hW₁, X', ⟨g', mk, t, L, e1, e2, hq, h1, hL, h2, h3⟩, st⟩ := vx_callVW X hx (C := C) (hh := hh) (bytes := bytes) (maxL := maxL) (ret := ret) ho hl hin hse hcode hy hK (by rw [hT]; exact hcB) hoB hclB hg (hsize.trans hml.symm) (argsL := As) (rest := rest) (fun sig h => hn.trans (hlen sig h)) hstack hW (by rw [hb]; exact hdg)
    (fun vm₁ hW₁ => ⟨hf.1, hf.2, hPc (T.setVm vm₁) hT hW₁⟩)
  dsimp only [Pt.U, Pt.locs, Pt.cells, Pt.slots] at X' e1 e2 h1 h2 h3 st
  subst h1; subst h2; subst h3
  exact ⟨v, (T.setVm vm₁).calling g' mk (Value.ref b :: As).toArray, t, U', L, hT, X', hL, e1, e2, hq, st⟩
section
variable {y : MethodName} {bytes cc : ByteArray} {maxL nL mc ms n index : Nat} {ret : Option FieldType} {ws : List Cond} {rm : Room} {Pc : Array Value → State → Prop} {Qc : Array Value → State → Outcome → State → Prop} {XC : String → State → State → Prop} {free : Addr → Prop} {Ts : List Cond} {own C : String} {b : Addr} {As rest : List Value} {g : JFrame}
theorem vx_runVX {hh : List (Nat × Nat × Nat × Nat)} (S : CallFix p m c cc nL s args Ts own) (hM : vx_Met l y ws rm Pc Qc XC mc ms free) (cw : vx_CVW R s args own C index y bytes maxL ret hh ws rm mc ms n) (hp : PreV s H C b Pc As)
    (hg : g.method = m) (hn : As.length = n) (hsize : g.locals.size = nL) (hstack : g.stack = As.reverse ++ .ref b :: rest) (hW : 2 * g.monitorRoom + (rest.map fun v => v.category).sum ≤ 8) (hdg : decode cc g.pc = .ok (.invokevirtual index, 3)) (hf : cells + mc ≤ R.cells ∧ slots + ms ≤ R.slots) :
    vx_Run p l e R s m args below meth c H locs cells slots mc ms g rest (Qc (Value.ref b :: As).toArray) XC free := by
  obtain ⟨⟨hrc, hrs, hfr, hlo, hws, hcw⟩, hcode, hini, hy, hlen, hl, hin, hse⟩ := cw
  have hK : vx_Back l R p e below s args y 3 8 (PreOf R mc ms Pc) (PostOf Qc mc ms free) (vx_Post XC mc ms free) := vx_backW (hh := hh) (bytes := bytes) (maxL := maxL) (ret := ret) hM hp.1 hrc hrs hfr hlo hws hcw (fun a' U hW => word_at hW (Or.inl (by first | rfl | simp [Cond.onTables, Cond.keeps, Cond.steady])) hini)
  obtain ⟨hx, hb, hml, ho, -⟩ := S
  obtain ⟨-, ⟨cellB, hcB, hoB, hclB⟩, hPc⟩ := hp
  intro T hT X
  rcases vx_callVX X hx (C := C) (hh := hh) (bytes := bytes) (maxL := maxL) (ret := ret) ho hl hin hse hcode hy hK (by rw [hT]; exact hcB) hoB hclB hg (hsize.trans hml.symm) (argsL := As) (rest := rest) (fun sig h => hn.trans (hlen sig h)) hstack hW (by rw [hb]; exact hdg)
    (fun vm₁ hW₁ => ⟨hf.1, hf.2, hPc (T.setVm vm₁) hT hW₁⟩) with ⟨v, vm₁, ⟨U', l2, c2, s2⟩, hW₁, X', ⟨g', mk, t, L, e1, e2, hq, h1, hL, h2, h3⟩, st⟩ | ⟨q, vm₁, ⟨U', l2, c2, s2⟩, hW₁, X', ⟨g', mk, t, L, E, ce, e1, e2, hq, hce, hcv, hcl, h1, hL, h2, h3⟩, st⟩
  · dsimp only [Pt.U, Pt.locs, Pt.cells, Pt.slots] at X' e1 e2 h1 h2 h3 st
    subst h1; subst h2; subst h3
    exact Or.inl ⟨v, (T.setVm vm₁).calling g' mk (Value.ref b :: As).toArray, t, U', L, hT, X', hL, e1, e2, hq, st⟩
  · dsimp only [Pt.U, Pt.locs, Pt.cells, Pt.slots] at X' e1 e2 h1 h2 h3 st hcl
    subst h1; subst h2; subst h3
    exact Or.inr ⟨q, (T.setVm vm₁).calling g' mk (Value.ref b :: As).toArray, t, U', L, E, ce, hT, X', hL, e1, e2, hq, hce, hcv, vx_cls hW₁ hcl, st⟩
theorem vx_runSX {hh : List (Nat × Nat × Nat × Nat)} (S : CallFix p m c cc nL s args Ts own) (hM : vx_Met l y ws rm Pc Qc XC mc ms free) (cw : vx_CSW R s args own index y bytes maxL ret hh ws rm mc ms n) (hp : PreS s H Pc As)
    (hg : g.method = m) (hn : As.length = n) (hsize : g.locals.size = nL) (hstack : g.stack = As.reverse ++ rest) (hW : 2 * g.monitorRoom + (rest.map fun v => v.category).sum ≤ 8) (hdg : decode cc g.pc = .ok (.invokestatic index, 3)) (hf : cells + mc ≤ R.cells ∧ slots + ms ≤ R.slots) :
    vx_Run p l e R s m args below meth c H locs cells slots mc ms g rest (Qc As.toArray) XC free := by
  obtain ⟨⟨hrc, hrs, hfr, hlo, hws, hcw⟩, hcode, hini, hy, hlen, hl, hstt⟩ := cw
  have hK : vx_Back l R p e below s args y 3 8 (PreOf R mc ms Pc) (PostOf Qc mc ms free) (vx_Post XC mc ms free) := vx_backW (hh := hh) (bytes := bytes) (maxL := maxL) (ret := ret) hM hp.1 hrc hrs hfr hlo hws hcw (fun a' U hW => word_at hW (Or.inl (by first | rfl | simp [Cond.onTables, Cond.keeps, Cond.steady])) hini)
  obtain ⟨hx, hb, hml, ho, -⟩ := S
  intro T hT X
  rcases vx_callSX X hx (hh := hh) (bytes := bytes) (maxL := maxL) (ret := ret) ho hl hstt hini hcode hy hK hg (hsize.trans hml.symm) (argsL := As) (rest := rest) (fun sig h => hn.trans (hlen sig h)) hstack hW (by rw [hb]; exact hdg)
    (fun vm₁ hW₁ => ⟨hf.1, hf.2, hp.2 (T.setVm vm₁) hT hW₁⟩) with ⟨v, vm₁, ⟨U', l2, c2, s2⟩, hW₁, X', ⟨g', mk, t, L, e1, e2, hq, h1, hL, h2, h3⟩, st⟩ | ⟨q, vm₁, ⟨U', l2, c2, s2⟩, hW₁, X', ⟨g', mk, t, L, E, ce, e1, e2, hq, hce, hcv, hcl, h1, hL, h2, h3⟩, st⟩
  · dsimp only [Pt.U, Pt.locs, Pt.cells, Pt.slots] at X' e1 e2 h1 h2 h3 st
    subst h1; subst h2; subst h3
    exact Or.inl ⟨v, (T.setVm vm₁).calling g' mk As.toArray, t, U', L, hT, X', hL, e1, e2, hq, st⟩
  · dsimp only [Pt.U, Pt.locs, Pt.cells, Pt.slots] at X' e1 e2 h1 h2 h3 st hcl
    subst h1; subst h2; subst h3
    exact Or.inr ⟨q, (T.setVm vm₁).calling g' mk As.toArray, t, U', L, E, ce, hT, X', hL, e1, e2, hq, hce, hcv, vx_cls hW₁ hcl, st⟩
end
end VXH
theorem vx_ofWH {l : Launch} {y : MethodName} {ws ws' : List Cond} {rm : Room} {Pc : Array Value → State → Prop} {Qc : Array Value → State → Outcome → State → Prop} {XC : String → State → State → Prop} {mc ms : Nat} {free : Addr → Prop} {cc : ByteArray} {maxL : Nat} {ret : Option FieldType} {hh : List (Nat × Nat × Nat × Nat)}
    (hy : plainName y.cls = true) (hw : ws = Cond.codeWith y cc maxL ret hh :: ws')
    (body : ∀ p e s m args below meth c s₁, BodyLoose p l y (headSpec ws rm) cc maxL ret e s m args below meth c s₁ → c.maxLocals = maxL → Pc args s →
      W p l e (headSpec ws rm).room s m args below meth c s.heap [] 0 0 (vx_MQ below Qc XC args s mc ms free) (entryFrame m args maxL)) : vx_Met l y ws rm Pc Qc XC mc ms free := by
  refine MetFree.of_bodyS (code := cc) (maxLocals := maxL) (ret := ret) hy ?_ ?_
  · intro args s m h hn
    obtain ⟨m9, meth, c, hn9, h1, h2, h3, h4, -, h5, h6, -⟩ := Cond.codeWith_spec (atoms_spec (ws := ws) h _ (by rw [hw]; exact List.mem_cons_self))
    cases hn.symm.trans hn9
    exact ⟨meth, c, h1, h2, h3, h4, h5, h6⟩
  · intro p e s m args below meth c s₁ B hml hP _
    have hh0 : s₁.heap = s.heap := by rw [B.state]; rfl
    obtain ⟨t, a1, o, b1, b2, b3⟩ := body p e s m args below meth c s₁ B hml hP s₁ hh0 (Stand.of_body B)
    exact ⟨t, o, a1, b1, b2, b3⟩
/-! ===== END ===== -/
end
section
/-! ===== BEGIN printed: names, fields, word lists, decode rows ===== -/
def RX0 : String := "LedgerKiln$Book"
def TX0 : u_T := fun k => match k with
  | 0 => ("LedgerKiln$Book", "days", "[I", true)
  | 1 => ("LedgerKiln$Book", "texts", "[I", true)
  | 2 => ("LedgerKiln$Book", "marks", "[I", true)
  | 3 => ("LedgerKiln$Book", "legCounts", "[I", true)
  | 4 => ("LedgerKiln$Book", "accounts", "[I", true)
  | 5 => ("LedgerKiln$Book", "reversals", "[I", true)
  | 6 => ("LedgerKiln$Book", "reversing", "[Z", true)
  | 7 => ("LedgerKiln$Book", "struck", "[Z", true)
  | 8 => ("LedgerKiln$Book", "written", "LLedgerKiln$Sheet;", true)
  | 9 => ("LedgerKiln$Book", "now", "LLedgerKiln$Sheet;", true)
  | _ => ("LedgerKiln$Book", "count", "I", false)
def tyX0 : Nat → FieldType := fun k => match k with
  | 0 => .array .int
  | 1 => .array .int
  | 2 => .array .int
  | 3 => .array .int
  | 4 => .array .int
  | 5 => .array .int
  | 6 => .array .boolean
  | 7 => .array .boolean
  | 8 => .object "LedgerKiln$Sheet"
  | 9 => .object "LedgerKiln$Sheet"
  | _ => .int
abbrev wsX00 : List Cond := u_ws RX0 TX0 11
theorem nmX0 : ∀ a, a < 11 → ∀ b, b < 11 → a ≠ b → (TX0 a).2.1 ≠ (TX0 b).2.1 := by decide +kernel
theorem tyX0_ok : ∀ k, k < 11 → parseFieldDescriptor (TX0 k).2.2.1 = some (tyX0 k) := by decide +kernel
abbrev cX0_init : ByteArray := prog_2_method_1_code
def yX0_init : MethodName := ⟨RX0, "<init>", "()V"⟩
abbrev cX0_isFull : ByteArray := prog_2_method_2_code
def yX0_isFull : MethodName := ⟨RX0, "isFull", "()Z"⟩
abbrev cX0_append : ByteArray := prog_2_method_3_code
def yX0_append : MethodName := ⟨RX0, "append", "(LLedgerKiln$Legs;II)I"⟩
abbrev cX0_isReversible : ByteArray := prog_2_method_4_code
def yX0_isReversible : MethodName := ⟨RX0, "isReversible", "(I)Z"⟩
abbrev cX0_appendReversal : ByteArray := prog_2_method_5_code
def yX0_appendReversal : MethodName := ⟨RX0, "appendReversal", "(ILLedgerKiln$Legs;I)I"⟩
abbrev cX0_markStruck : ByteArray := prog_2_method_6_code
def yX0_markStruck : MethodName := ⟨RX0, "markStruck", "(I)V"⟩
abbrev cX0_stateOf : ByteArray := prog_2_method_7_code
def yX0_stateOf : MethodName := ⟨RX0, "stateOf", "(I)I"⟩
abbrev cX0_isTrueOn : ByteArray := prog_2_method_8_code
def yX0_isTrueOn : MethodName := ⟨RX0, "isTrueOn", "(LLedgerKiln$Sheet;I)Z"⟩
abbrev cX0_hasLegFor : ByteArray := prog_2_method_9_code
def yX0_hasLegFor : MethodName := ⟨RX0, "hasLegFor", "(II)Z"⟩
abbrev cX0_sumOn : ByteArray := prog_2_method_10_code
def yX0_sumOn : MethodName := ⟨RX0, "sumOn", "(LLedgerKiln$Sheet;II)I"⟩
abbrev cX0_countUpTo : ByteArray := prog_2_method_11_code
def yX0_countUpTo : MethodName := ⟨RX0, "countUpTo", "(I)I"⟩
abbrev cX0_countBurnt : ByteArray := prog_2_method_12_code
def yX0_countBurnt : MethodName := ⟨RX0, "countBurnt", "()I"⟩
def RX1 : String := "LedgerKiln$Copy"
def TX1 : u_T := fun k => match k with
  | 0 => ("LedgerKiln$Copy", "sheet", "LLedgerKiln$Sheet;", true)
  | 1 => ("LedgerKiln$Copy", "base", "LLedgerKiln$Copy;", true)
  | 2 => ("LedgerKiln$Copy", "first", "I", true)
  | 3 => ("LedgerKiln$Copy", "end", "I", true)
  | _ => ("LedgerKiln$Copy", "inVault", "Z", false)
def tyX1 : Nat → FieldType := fun k => match k with
  | 0 => .object "LedgerKiln$Sheet"
  | 1 => .object "LedgerKiln$Copy"
  | 2 => .int
  | 3 => .int
  | _ => .boolean
abbrev wsX10 : List Cond := u_ws RX1 TX1 5
theorem nmX1 : ∀ a, a < 5 → ∀ b, b < 5 → a ≠ b → (TX1 a).2.1 ≠ (TX1 b).2.1 := by decide +kernel
theorem tyX1_ok : ∀ k, k < 5 → parseFieldDescriptor (TX1 k).2.2.1 = some (tyX1 k) := by decide +kernel
abbrev cX1_init : ByteArray := prog_3_method_1_code
def yX1_init : MethodName := ⟨RX1, "<init>", "(LLedgerKiln$Copy;II)V"⟩
abbrev cX1_isChainInVault : ByteArray := prog_3_method_2_code
def yX1_isChainInVault : MethodName := ⟨RX1, "isChainInVault", "()Z"⟩
abbrev cX1_blankStruck : ByteArray := prog_3_method_3_code
def yX1_blankStruck : MethodName := ⟨RX1, "blankStruck", "(LLedgerKiln$Book;)I"⟩
abbrev cX1_giveBack : ByteArray := prog_3_method_4_code
def yX1_giveBack : MethodName := ⟨RX1, "giveBack", "(LLedgerKiln$Book;)I"⟩
def RX2 : String := "LedgerKiln$Court"
def TX2 : u_T := fun k => match k with
  | 0 => ("LedgerKiln$Court", "running", "[Z", true)
  | 1 => ("LedgerKiln$Court", "opened", "I", false)
  | 2 => ("LedgerKiln$Court", "holdCases", "[I", true)
  | 3 => ("LedgerKiln$Court", "holdAccounts", "[I", true)
  | 4 => ("LedgerKiln$Court", "holdFroms", "[I", true)
  | 5 => ("LedgerKiln$Court", "holdTos", "[I", true)
  | _ => ("LedgerKiln$Court", "holds", "I", false)
def tyX2 : Nat → FieldType := fun k => match k with
  | 0 => .array .boolean
  | 1 => .int
  | 2 => .array .int
  | 3 => .array .int
  | 4 => .array .int
  | 5 => .array .int
  | _ => .int
abbrev wsX20 : List Cond := u_ws RX2 TX2 7
theorem nmX2 : ∀ a, a < 7 → ∀ b, b < 7 → a ≠ b → (TX2 a).2.1 ≠ (TX2 b).2.1 := by decide +kernel
theorem tyX2_ok : ∀ k, k < 7 → parseFieldDescriptor (TX2 k).2.2.1 = some (tyX2 k) := by decide +kernel
abbrev cX2_init : ByteArray := prog_4_method_1_code
def yX2_init : MethodName := ⟨RX2, "<init>", "()V"⟩
abbrev cX2_isFull : ByteArray := prog_4_method_2_code
def yX2_isFull : MethodName := ⟨RX2, "isFull", "()Z"⟩
abbrev cX2_openNext : ByteArray := prog_4_method_3_code
def yX2_openNext : MethodName := ⟨RX2, "openNext", "()I"⟩
abbrev cX2_hasAllHolds : ByteArray := prog_4_method_4_code
def yX2_hasAllHolds : MethodName := ⟨RX2, "hasAllHolds", "()Z"⟩
abbrev cX2_addHold : ByteArray := prog_4_method_5_code
def yX2_addHold : MethodName := ⟨RX2, "addHold", "(IIII)V"⟩
abbrev cX2_holdersOf : ByteArray := prog_4_method_6_code
def yX2_holdersOf : MethodName := ⟨RX2, "holdersOf", "(LLedgerKiln$Book;I)I"⟩
abbrev cX2_countHeld : ByteArray := prog_4_method_7_code
def yX2_countHeld : MethodName := ⟨RX2, "countHeld", "(ILLedgerKiln$Book;)I"⟩
abbrev cX2_countHeldAlone : ByteArray := prog_4_method_8_code
def yX2_countHeldAlone : MethodName := ⟨RX2, "countHeldAlone", "(ILLedgerKiln$Book;)I"⟩
abbrev cX2_holdsAnyIn : ByteArray := prog_4_method_9_code
def yX2_holdsAnyIn : MethodName := ⟨RX2, "holdsAnyIn", "(LLedgerKiln$Copy;LLedgerKiln$Book;)Z"⟩
abbrev cX2_maySentence : ByteArray := prog_4_method_10_code
def yX2_maySentence : MethodName := ⟨RX2, "maySentence", "(ILLedgerKiln$Book;I)Z"⟩
def RX3 : String := "LedgerKiln$Legs"
def TX3 : u_T := fun k => match k with
  | 0 => ("LedgerKiln$Legs", "accounts", "[I", true)
  | 1 => ("LedgerKiln$Legs", "amounts", "[I", true)
  | _ => ("LedgerKiln$Legs", "count", "I", false)
def tyX3 : Nat → FieldType := fun k => match k with
  | 0 => .array .int
  | 1 => .array .int
  | _ => .int
abbrev wsX30 : List Cond := u_ws RX3 TX3 3
theorem nmX3 : ∀ a, a < 3 → ∀ b, b < 3 → a ≠ b → (TX3 a).2.1 ≠ (TX3 b).2.1 := by decide +kernel
theorem tyX3_ok : ∀ k, k < 3 → parseFieldDescriptor (TX3 k).2.2.1 = some (tyX3 k) := by decide +kernel
abbrev cX3_init : ByteArray := prog_5_method_1_code
def yX3_init : MethodName := ⟨RX3, "<init>", "()V"⟩
abbrev cX3_isFull : ByteArray := prog_5_method_2_code
def yX3_isFull : MethodName := ⟨RX3, "isFull", "()Z"⟩
abbrev cX3_add : ByteArray := prog_5_method_3_code
def yX3_add : MethodName := ⟨RX3, "add", "(II)I"⟩
abbrev cX3_clear : ByteArray := prog_5_method_4_code
def yX3_clear : MethodName := ⟨RX3, "clear", "()I"⟩
abbrev cX3_isBalanced : ByteArray := prog_5_method_5_code
def yX3_isBalanced : MethodName := ⟨RX3, "isBalanced", "()Z"⟩
abbrev cX3_markWith : ByteArray := prog_5_method_6_code
def yX3_markWith : MethodName := ⟨RX3, "markWith", "(II)I"⟩
abbrev cX3_nextMark : ByteArray := prog_5_method_7_code
def yX3_nextMark : MethodName := ⟨RX3, "nextMark", "(II)I"⟩
def RX4 : String := "LedgerKiln$Sheet"
def TX4 : u_T := fun k => match k with
  | 0 => ("LedgerKiln$Sheet", "filled", "[Z", true)
  | _ => ("LedgerKiln$Sheet", "amounts", "[I", true)
def tyX4 : Nat → FieldType := fun k => match k with
  | 0 => .array .boolean
  | _ => .array .int
abbrev wsX40 : List Cond := u_ws RX4 TX4 2
theorem nmX4 : ∀ a, a < 2 → ∀ b, b < 2 → a ≠ b → (TX4 a).2.1 ≠ (TX4 b).2.1 := by decide +kernel
theorem tyX4_ok : ∀ k, k < 2 → parseFieldDescriptor (TX4 k).2.2.1 = some (tyX4 k) := by decide +kernel
abbrev cX4_init : ByteArray := prog_6_method_1_code
def yX4_init : MethodName := ⟨RX4, "<init>", "()V"⟩
abbrev cX4_isFilled : ByteArray := prog_6_method_2_code
def yX4_isFilled : MethodName := ⟨RX4, "isFilled", "(I)Z"⟩
abbrev cX4_amountOf : ByteArray := prog_6_method_3_code
def yX4_amountOf : MethodName := ⟨RX4, "amountOf", "(II)I"⟩
abbrev cX4_fill : ByteArray := prog_6_method_4_code
def yX4_fill : MethodName := ⟨RX4, "fill", "(ILLedgerKiln$Legs;)V"⟩
abbrev cX4_replace : ByteArray := prog_6_method_5_code
def yX4_replace : MethodName := ⟨RX4, "replace", "(III)I"⟩
abbrev cX4_take : ByteArray := prog_6_method_6_code
def yX4_take : MethodName := ⟨RX4, "take", "(LLedgerKiln$Sheet;I)V"⟩
abbrev cX4_blank : ByteArray := prog_6_method_7_code
def yX4_blank : MethodName := ⟨RX4, "blank", "(I)Z"⟩
abbrev cX4_isLike : ByteArray := prog_6_method_8_code
def yX4_isLike : MethodName := ⟨RX4, "isLike", "(LLedgerKiln$Sheet;I)Z"⟩
def RX5 : String := "LedgerKiln$Vault"
def TX5 : u_T := fun k => match k with
  | 0 => ("LedgerKiln$Vault", "copies", "[LLedgerKiln$Copy;", true)
  | _ => ("LedgerKiln$Vault", "made", "I", false)
def tyX5 : Nat → FieldType := fun k => match k with
  | 0 => .array (.object "LedgerKiln$Copy")
  | _ => .int
abbrev wsX50 : List Cond := u_ws RX5 TX5 2
theorem nmX5 : ∀ a, a < 2 → ∀ b, b < 2 → a ≠ b → (TX5 a).2.1 ≠ (TX5 b).2.1 := by decide +kernel
theorem tyX5_ok : ∀ k, k < 2 → parseFieldDescriptor (TX5 k).2.2.1 = some (tyX5 k) := by decide +kernel
abbrev cX5_init : ByteArray := prog_7_method_1_code
def yX5_init : MethodName := ⟨RX5, "<init>", "()V"⟩
abbrev cX5_isFull : ByteArray := prog_7_method_2_code
def yX5_isFull : MethodName := ⟨RX5, "isFull", "()Z"⟩
abbrev cX5_find : ByteArray := prog_7_method_3_code
def yX5_find : MethodName := ⟨RX5, "find", "(I)LLedgerKiln$Copy;"⟩
abbrev cX5_make : ByteArray := prog_7_method_4_code
def yX5_make : MethodName := ⟨RX5, "make", "(LLedgerKiln$Copy;LLedgerKiln$Book;)I"⟩
abbrev cX5_remove : ByteArray := prog_7_method_5_code
def yX5_remove : MethodName := ⟨RX5, "remove", "(I)V"⟩
abbrev cX5_countThere : ByteArray := prog_7_method_6_code
def yX5_countThere : MethodName := ⟨RX5, "countThere", "()I"⟩
abbrev cX5_isBase : ByteArray := prog_7_method_7_code
def yX5_isBase : MethodName := ⟨RX5, "isBase", "(LLedgerKiln$Copy;)Z"⟩
abbrev cX5_countFilled : ByteArray := prog_7_method_8_code
def yX5_countFilled : MethodName := ⟨RX5, "countFilled", "(I)I"⟩
abbrev cX5_blankInVault : ByteArray := prog_7_method_9_code
def yX5_blankInVault : MethodName := ⟨RX5, "blankInVault", "(I)I"⟩
abbrev cX5_hasTrue : ByteArray := prog_7_method_10_code
def yX5_hasTrue : MethodName := ⟨RX5, "hasTrue", "(LLedgerKiln$Book;IZ)Z"⟩
def RX6 : String := "LedgerKiln"
def TX6 : u_T := fun k => match k with
  | 0 => ("LedgerKiln", "draft", "LLedgerKiln$Legs;", true)
  | 1 => ("LedgerKiln", "opposite", "LLedgerKiln$Legs;", true)
  | 2 => ("LedgerKiln", "book", "LLedgerKiln$Book;", true)
  | 3 => ("LedgerKiln", "vault", "LLedgerKiln$Vault;", true)
  | 4 => ("LedgerKiln", "court", "LLedgerKiln$Court;", true)
  | _ => ("LedgerKiln", "today", "I", false)
def tyX6 : Nat → FieldType := fun k => match k with
  | 0 => .object "LedgerKiln$Legs"
  | 1 => .object "LedgerKiln$Legs"
  | 2 => .object "LedgerKiln$Book"
  | 3 => .object "LedgerKiln$Vault"
  | 4 => .object "LedgerKiln$Court"
  | _ => .int
abbrev wsX60 : List Cond := u_ws RX6 TX6 6
theorem nmX6 : ∀ a, a < 6 → ∀ b, b < 6 → a ≠ b → (TX6 a).2.1 ≠ (TX6 b).2.1 := by decide +kernel
theorem tyX6_ok : ∀ k, k < 6 → parseFieldDescriptor (TX6 k).2.2.1 = some (tyX6 k) := by decide +kernel
abbrev cX6_init : ByteArray := prog_1_method_1_code
def yX6_init : MethodName := ⟨RX6, "<init>", "()V"⟩
abbrev cX6_leg : ByteArray := prog_1_method_2_code
def yX6_leg : MethodName := ⟨RX6, "leg", "(II)I"⟩
abbrev cX6_wipe : ByteArray := prog_1_method_3_code
def yX6_wipe : MethodName := ⟨RX6, "wipe", "()I"⟩
abbrev cX6_write : ByteArray := prog_1_method_4_code
def yX6_write : MethodName := ⟨RX6, "write", "(I)I"⟩
abbrev cX6_reverse : ByteArray := prog_1_method_5_code
def yX6_reverse : MethodName := ⟨RX6, "reverse", "(I)I"⟩
abbrev cX6_pass : ByteArray := prog_1_method_6_code
def yX6_pass : MethodName := ⟨RX6, "pass", "(I)I"⟩
abbrev cX6_burn : ByteArray := prog_1_method_7_code
def yX6_burn : MethodName := ⟨RX6, "burn", "(II)I"⟩
abbrev cX6_alter : ByteArray := prog_1_method_8_code
def yX6_alter : MethodName := ⟨RX6, "alter", "(III)I"⟩
abbrev cX6_copy : ByteArray := prog_1_method_9_code
def yX6_copy : MethodName := ⟨RX6, "copy", "()I"⟩
abbrev cX6_copyFrom : ByteArray := prog_1_method_10_code
def yX6_copyFrom : MethodName := ⟨RX6, "copyFrom", "(I)I"⟩
abbrev cX6_carry : ByteArray := prog_1_method_11_code
def yX6_carry : MethodName := ⟨RX6, "carry", "(IZ)I"⟩
abbrev cX6_rot : ByteArray := prog_1_method_12_code
def yX6_rot : MethodName := ⟨RX6, "rot", "(II)Z"⟩
abbrev cX6_throwAway : ByteArray := prog_1_method_13_code
def yX6_throwAway : MethodName := ⟨RX6, "throwAway", "(I)I"⟩
abbrev cX6_restore : ByteArray := prog_1_method_14_code
def yX6_restore : MethodName := ⟨RX6, "restore", "(I)I"⟩
abbrev cX6_open : ByteArray := prog_1_method_15_code
def yX6_open : MethodName := ⟨RX6, "open", "()I"⟩
abbrev cX6_close : ByteArray := prog_1_method_16_code
def yX6_close : MethodName := ⟨RX6, "close", "(I)I"⟩
abbrev cX6_hold : ByteArray := prog_1_method_17_code
def yX6_hold : MethodName := ⟨RX6, "hold", "(IIII)I"⟩
abbrev cX6_strike : ByteArray := prog_1_method_18_code
def yX6_strike : MethodName := ⟨RX6, "strike", "(II)I"⟩
abbrev cX6_day : ByteArray := prog_1_method_19_code
def yX6_day : MethodName := ⟨RX6, "day", "()I"⟩
abbrev cX6_pages : ByteArray := prog_1_method_20_code
def yX6_pages : MethodName := ⟨RX6, "pages", "()I"⟩
abbrev cX6_state : ByteArray := prog_1_method_21_code
def yX6_state : MethodName := ⟨RX6, "state", "(I)I"⟩
abbrev cX6_isTrue : ByteArray := prog_1_method_22_code
def yX6_isTrue : MethodName := ⟨RX6, "isTrue", "(I)Z"⟩
abbrev cX6_text : ByteArray := prog_1_method_23_code
def yX6_text : MethodName := ⟨RX6, "text", "(I)I"⟩
abbrev cX6_mark : ByteArray := prog_1_method_24_code
def yX6_mark : MethodName := ⟨RX6, "mark", "(I)I"⟩
abbrev cX6_reversal : ByteArray := prog_1_method_25_code
def yX6_reversal : MethodName := ⟨RX6, "reversal", "(I)I"⟩
abbrev cX6_proves : ByteArray := prog_1_method_26_code
def yX6_proves : MethodName := ⟨RX6, "proves", "(II)Z"⟩
abbrev cX6_proven : ByteArray := prog_1_method_27_code
def yX6_proven : MethodName := ⟨RX6, "proven", "(II)I"⟩
abbrev cX6_balance : ByteArray := prog_1_method_28_code
def yX6_balance : MethodName := ⟨RX6, "balance", "(II)I"⟩
abbrev cX6_balanceByPages : ByteArray := prog_1_method_29_code
def yX6_balanceByPages : MethodName := ⟨RX6, "balanceByPages", "(II)I"⟩
abbrev cX6_balanceByCopies : ByteArray := prog_1_method_30_code
def yX6_balanceByCopies : MethodName := ⟨RX6, "balanceByCopies", "(II)I"⟩
abbrev cX6_isToldTruly : ByteArray := prog_1_method_31_code
def yX6_isToldTruly : MethodName := ⟨RX6, "isToldTruly", "(I)Z"⟩
abbrev cX6_copies : ByteArray := prog_1_method_32_code
def yX6_copies : MethodName := ⟨RX6, "copies", "()I"⟩
abbrev cX6_size : ByteArray := prog_1_method_33_code
def yX6_size : MethodName := ⟨RX6, "size", "(I)I"⟩
abbrev cX6_isInVault : ByteArray := prog_1_method_34_code
def yX6_isInVault : MethodName := ⟨RX6, "isInVault", "(I)Z"⟩
abbrev cX6_stands : ByteArray := prog_1_method_35_code
def yX6_stands : MethodName := ⟨RX6, "stands", "(II)Z"⟩
abbrev cX6_copiesOf : ByteArray := prog_1_method_36_code
def yX6_copiesOf : MethodName := ⟨RX6, "copiesOf", "(I)I"⟩
abbrev cX6_canRestore : ByteArray := prog_1_method_37_code
def yX6_canRestore : MethodName := ⟨RX6, "canRestore", "(I)Z"⟩
abbrev cX6_gaps : ByteArray := prog_1_method_38_code
def yX6_gaps : MethodName := ⟨RX6, "gaps", "()I"⟩
abbrev cX6_lost : ByteArray := prog_1_method_39_code
def yX6_lost : MethodName := ⟨RX6, "lost", "()I"⟩
abbrev cX6_audit : ByteArray := prog_1_method_40_code
def yX6_audit : MethodName := ⟨RX6, "audit", "(I)I"⟩
abbrev cX6_isOpen : ByteArray := prog_1_method_41_code
def yX6_isOpen : MethodName := ⟨RX6, "isOpen", "(I)Z"⟩
abbrev cX6_holders : ByteArray := prog_1_method_42_code
def yX6_holders : MethodName := ⟨RX6, "holders", "(I)I"⟩
abbrev cX6_canStrike : ByteArray := prog_1_method_43_code
def yX6_canStrike : MethodName := ⟨RX6, "canStrike", "(II)Z"⟩
abbrev cX6_needPage : ByteArray := prog_1_method_44_code
def yX6_needPage : MethodName := ⟨RX6, "needPage", "(I)V"⟩
abbrev cX6_needAccount : ByteArray := prog_1_method_45_code
def yX6_needAccount : MethodName := ⟨RX6, "needAccount", "(I)V"⟩
abbrev cX6_needCase : ByteArray := prog_1_method_46_code
def yX6_needCase : MethodName := ⟨RX6, "needCase", "(I)V"⟩
abbrev cX6_needCopy : ByteArray := prog_1_method_47_code
def yX6_needCopy : MethodName := ⟨RX6, "needCopy", "(I)LLedgerKiln$Copy;"⟩
abbrev cX6_needPageIn : ByteArray := prog_1_method_48_code
def yX6_needPageIn : MethodName := ⟨RX6, "needPageIn", "(LLedgerKiln$Copy;I)V"⟩
abbrev cX6_needAmount : ByteArray := prog_1_method_49_code
def yX6_needAmount : MethodName := ⟨RX6, "needAmount", "(I)V"⟩
abbrev cX6_needText : ByteArray := prog_1_method_50_code
def yX6_needText : MethodName := ⟨RX6, "needText", "(I)V"⟩
abbrev cX6_needPastDay : ByteArray := prog_1_method_51_code
def yX6_needPastDay : MethodName := ⟨RX6, "needPastDay", "(I)V"⟩
abbrev cX6_needRoomForCopy : ByteArray := prog_1_method_52_code
def yX6_needRoomForCopy : MethodName := ⟨RX6, "needRoomForCopy", "()V"⟩
def RX7 : String := "LedgerKilnModel"
def TX7 : u_T := fun k => match k with
  | 0 => ("LedgerKilnModel", "refusal", "I", false)
  | 1 => ("LedgerKilnModel", "day", "I", false)
  | 2 => ("LedgerKilnModel", "draftLegs", "I", false)
  | 3 => ("LedgerKilnModel", "draftAccounts", "[I", true)
  | 4 => ("LedgerKilnModel", "draftAmounts", "[I", true)
  | 5 => ("LedgerKilnModel", "pages", "I", false)
  | 6 => ("LedgerKilnModel", "days", "[I", true)
  | 7 => ("LedgerKilnModel", "texts", "[I", true)
  | 8 => ("LedgerKilnModel", "legs", "[I", true)
  | 9 => ("LedgerKilnModel", "accounts", "[I", true)
  | 10 => ("LedgerKilnModel", "written", "[I", true)
  | 11 => ("LedgerKilnModel", "inBook", "[I", true)
  | 12 => ("LedgerKilnModel", "states", "[I", true)
  | 13 => ("LedgerKilnModel", "reversals", "[I", true)
  | 14 => ("LedgerKilnModel", "isReversal", "[Z", true)
  | 15 => ("LedgerKilnModel", "made", "I", false)
  | 16 => ("LedgerKilnModel", "bases", "[I", true)
  | 17 => ("LedgerKilnModel", "firsts", "[I", true)
  | 18 => ("LedgerKilnModel", "ends", "[I", true)
  | 19 => ("LedgerKilnModel", "isAway", "[Z", true)
  | 20 => ("LedgerKilnModel", "isOutside", "[Z", true)
  | 21 => ("LedgerKilnModel", "hasPage", "[Z", true)
  | 22 => ("LedgerKilnModel", "inCopy", "[I", true)
  | 23 => ("LedgerKilnModel", "cases", "I", false)
  | 24 => ("LedgerKilnModel", "isClosed", "[Z", true)
  | 25 => ("LedgerKilnModel", "holds", "I", false)
  | 26 => ("LedgerKilnModel", "holders", "[I", true)
  | 27 => ("LedgerKilnModel", "heldAccounts", "[I", true)
  | 28 => ("LedgerKilnModel", "heldFrom", "[I", true)
  | _ => ("LedgerKilnModel", "heldTo", "[I", true)
def tyX7 : Nat → FieldType := fun k => match k with
  | 0 => .int
  | 1 => .int
  | 2 => .int
  | 3 => .array .int
  | 4 => .array .int
  | 5 => .int
  | 6 => .array .int
  | 7 => .array .int
  | 8 => .array .int
  | 9 => .array .int
  | 10 => .array .int
  | 11 => .array .int
  | 12 => .array .int
  | 13 => .array .int
  | 14 => .array .boolean
  | 15 => .int
  | 16 => .array .int
  | 17 => .array .int
  | 18 => .array .int
  | 19 => .array .boolean
  | 20 => .array .boolean
  | 21 => .array .boolean
  | 22 => .array .int
  | 23 => .int
  | 24 => .array .boolean
  | 25 => .int
  | 26 => .array .int
  | 27 => .array .int
  | 28 => .array .int
  | _ => .array .int
abbrev wsX70 : List Cond := u_ws RX7 TX7 30
theorem nmX7 : ∀ a, a < 30 → ∀ b, b < 30 → a ≠ b → (TX7 a).2.1 ≠ (TX7 b).2.1 := by decide +kernel
theorem tyX7_ok : ∀ k, k < 30 → parseFieldDescriptor (TX7 k).2.2.1 = some (tyX7 k) := by decide +kernel
abbrev cX7_init : ByteArray := prog_9_method_1_code
def yX7_init : MethodName := ⟨RX7, "<init>", "()V"⟩
abbrev cX7_thrown : ByteArray := prog_9_method_2_code
def yX7_thrown : MethodName := ⟨RX7, "thrown", "()I"⟩
abbrev cX7_refused : ByteArray := prog_9_method_3_code
def yX7_refused : MethodName := ⟨RX7, "refused", "(I)Z"⟩
abbrev cX7_fine : ByteArray := prog_9_method_4_code
def yX7_fine : MethodName := ⟨RX7, "fine", "(I)I"⟩
abbrev cX7_in : ByteArray := prog_9_method_5_code
def yX7_in : MethodName := ⟨RX7, "in", "(III)Z"⟩
abbrev cX7_isAccount : ByteArray := prog_9_method_6_code
def yX7_isAccount : MethodName := ⟨RX7, "isAccount", "(I)Z"⟩
abbrev cX7_isPage : ByteArray := prog_9_method_7_code
def yX7_isPage : MethodName := ⟨RX7, "isPage", "(I)Z"⟩
abbrev cX7_isCopy : ByteArray := prog_9_method_8_code
def yX7_isCopy : MethodName := ⟨RX7, "isCopy", "(I)Z"⟩
abbrev cX7_isCase : ByteArray := prog_9_method_9_code
def yX7_isCase : MethodName := ⟨RX7, "isCase", "(I)Z"⟩
abbrev cX7_leg : ByteArray := prog_9_method_10_code
def yX7_leg : MethodName := ⟨RX7, "leg", "(II)I"⟩
abbrev cX7_wipe : ByteArray := prog_9_method_11_code
def yX7_wipe : MethodName := ⟨RX7, "wipe", "()I"⟩
abbrev cX7_draftSum : ByteArray := prog_9_method_12_code
def yX7_draftSum : MethodName := ⟨RX7, "draftSum", "()I"⟩
abbrev cX7_begin : ByteArray := prog_9_method_13_code
def yX7_begin : MethodName := ⟨RX7, "begin", "(I)V"⟩
abbrev cX7_put : ByteArray := prog_9_method_14_code
def yX7_put : MethodName := ⟨RX7, "put", "(II)V"⟩
abbrev cX7_write : ByteArray := prog_9_method_15_code
def yX7_write : MethodName := ⟨RX7, "write", "(I)I"⟩
abbrev cX7_isTrueInBook : ByteArray := prog_9_method_16_code
def yX7_isTrueInBook : MethodName := ⟨RX7, "isTrueInBook", "(I)Z"⟩
abbrev cX7_reverse : ByteArray := prog_9_method_17_code
def yX7_reverse : MethodName := ⟨RX7, "reverse", "(I)I"⟩
abbrev cX7_pass : ByteArray := prog_9_method_18_code
def yX7_pass : MethodName := ⟨RX7, "pass", "(I)I"⟩
abbrev cX7_burn : ByteArray := prog_9_method_19_code
def yX7_burn : MethodName := ⟨RX7, "burn", "(II)I"⟩
abbrev cX7_alter : ByteArray := prog_9_method_20_code
def yX7_alter : MethodName := ⟨RX7, "alter", "(III)I"⟩
abbrev cX7_burnt : ByteArray := prog_9_method_21_code
def yX7_burnt : MethodName := ⟨RX7, "burnt", "()I"⟩
abbrev cX7_makeCopy : ByteArray := prog_9_method_22_code
def yX7_makeCopy : MethodName := ⟨RX7, "makeCopy", "(II)I"⟩
abbrev cX7_copy : ByteArray := prog_9_method_23_code
def yX7_copy : MethodName := ⟨RX7, "copy", "()I"⟩
abbrev cX7_copyFrom : ByteArray := prog_9_method_24_code
def yX7_copyFrom : MethodName := ⟨RX7, "copyFrom", "(I)I"⟩
abbrev cX7_has : ByteArray := prog_9_method_25_code
def yX7_has : MethodName := ⟨RX7, "has", "(II)Z"⟩
abbrev cX7_standsIn : ByteArray := prog_9_method_26_code
def yX7_standsIn : MethodName := ⟨RX7, "standsIn", "(II)Z"⟩
abbrev cX7_carry : ByteArray := prog_9_method_27_code
def yX7_carry : MethodName := ⟨RX7, "carry", "(IZ)I"⟩
abbrev cX7_areBoth : ByteArray := prog_9_method_28_code
def yX7_areBoth : MethodName := ⟨RX7, "areBoth", "(II)Z"⟩
abbrev cX7_rot : ByteArray := prog_9_method_29_code
def yX7_rot : MethodName := ⟨RX7, "rot", "(II)Z"⟩
abbrev cX7_isBase : ByteArray := prog_9_method_30_code
def yX7_isBase : MethodName := ⟨RX7, "isBase", "(I)Z"⟩
abbrev cX7_throwAway : ByteArray := prog_9_method_31_code
def yX7_throwAway : MethodName := ⟨RX7, "throwAway", "(I)I"⟩
abbrev cX7_copiesThere : ByteArray := prog_9_method_32_code
def yX7_copiesThere : MethodName := ⟨RX7, "copiesThere", "()I"⟩
abbrev cX7_isWhole : ByteArray := prog_9_method_33_code
def yX7_isWhole : MethodName := ⟨RX7, "isWhole", "(I)Z"⟩
abbrev cX7_isTrueIn : ByteArray := prog_9_method_34_code
def yX7_isTrueIn : MethodName := ⟨RX7, "isTrueIn", "(II)Z"⟩
abbrev cX7_restore : ByteArray := prog_9_method_35_code
def yX7_restore : MethodName := ⟨RX7, "restore", "(I)I"⟩
abbrev cX7_open : ByteArray := prog_9_method_36_code
def yX7_open : MethodName := ⟨RX7, "open", "()I"⟩
abbrev cX7_reaches : ByteArray := prog_9_method_37_code
def yX7_reaches : MethodName := ⟨RX7, "reaches", "(II)Z"⟩
abbrev cX7_holdersOf : ByteArray := prog_9_method_38_code
def yX7_holdersOf : MethodName := ⟨RX7, "holdersOf", "(I)I"⟩
abbrev cX7_close : ByteArray := prog_9_method_39_code
def yX7_close : MethodName := ⟨RX7, "close", "(I)I"⟩
abbrev cX7_hold : ByteArray := prog_9_method_40_code
def yX7_hold : MethodName := ⟨RX7, "hold", "(IIII)I"⟩
abbrev cX7_may : ByteArray := prog_9_method_41_code
def yX7_may : MethodName := ⟨RX7, "may", "(II)Z"⟩
abbrev cX7_strike : ByteArray := prog_9_method_42_code
def yX7_strike : MethodName := ⟨RX7, "strike", "(II)I"⟩
abbrev cX7_day : ByteArray := prog_9_method_43_code
def yX7_day : MethodName := ⟨RX7, "day", "()I"⟩
abbrev cX7_pages : ByteArray := prog_9_method_44_code
def yX7_pages : MethodName := ⟨RX7, "pages", "()I"⟩
abbrev cX7_noPage : ByteArray := prog_9_method_45_code
def yX7_noPage : MethodName := ⟨RX7, "noPage", "(I)Z"⟩
abbrev cX7_state : ByteArray := prog_9_method_46_code
def yX7_state : MethodName := ⟨RX7, "state", "(I)I"⟩
abbrev cX7_isTrue : ByteArray := prog_9_method_47_code
def yX7_isTrue : MethodName := ⟨RX7, "isTrue", "(I)Z"⟩
abbrev cX7_text : ByteArray := prog_9_method_48_code
def yX7_text : MethodName := ⟨RX7, "text", "(I)I"⟩
abbrev cX7_marked : ByteArray := prog_9_method_49_code
def yX7_marked : MethodName := ⟨RX7, "marked", "(II)I"⟩
abbrev cX7_markOf : ByteArray := prog_9_method_50_code
def yX7_markOf : MethodName := ⟨RX7, "markOf", "(I)I"⟩
abbrev cX7_mark : ByteArray := prog_9_method_51_code
def yX7_mark : MethodName := ⟨RX7, "mark", "(I)I"⟩
abbrev cX7_reversal : ByteArray := prog_9_method_52_code
def yX7_reversal : MethodName := ⟨RX7, "reversal", "(I)I"⟩
abbrev cX7_proves : ByteArray := prog_9_method_53_code
def yX7_proves : MethodName := ⟨RX7, "proves", "(II)Z"⟩
abbrev cX7_sumOf : ByteArray := prog_9_method_54_code
def yX7_sumOf : MethodName := ⟨RX7, "sumOf", "(IIZ)I"⟩
abbrev cX7_proven : ByteArray := prog_9_method_55_code
def yX7_proven : MethodName := ⟨RX7, "proven", "(II)I"⟩
abbrev cX7_noBalance : ByteArray := prog_9_method_56_code
def yX7_noBalance : MethodName := ⟨RX7, "noBalance", "(II)Z"⟩
abbrev cX7_balanceOf : ByteArray := prog_9_method_57_code
def yX7_balanceOf : MethodName := ⟨RX7, "balanceOf", "(II)I"⟩
abbrev cX7_balance : ByteArray := prog_9_method_58_code
def yX7_balance : MethodName := ⟨RX7, "balance", "(II)I"⟩
abbrev cX7_balanceByPages : ByteArray := prog_9_method_59_code
def yX7_balanceByPages : MethodName := ⟨RX7, "balanceByPages", "(II)I"⟩
abbrev cX7_isFound : ByteArray := prog_9_method_60_code
def yX7_isFound : MethodName := ⟨RX7, "isFound", "(IZ)Z"⟩
abbrev cX7_balanceByCopies : ByteArray := prog_9_method_61_code
def yX7_balanceByCopies : MethodName := ⟨RX7, "balanceByCopies", "(II)I"⟩
abbrev cX7_copies : ByteArray := prog_9_method_62_code
def yX7_copies : MethodName := ⟨RX7, "copies", "()I"⟩
abbrev cX7_noCopy : ByteArray := prog_9_method_63_code
def yX7_noCopy : MethodName := ⟨RX7, "noCopy", "(I)Z"⟩
abbrev cX7_size : ByteArray := prog_9_method_64_code
def yX7_size : MethodName := ⟨RX7, "size", "(I)I"⟩
abbrev cX7_isInVault : ByteArray := prog_9_method_65_code
def yX7_isInVault : MethodName := ⟨RX7, "isInVault", "(I)Z"⟩
abbrev cX7_stands : ByteArray := prog_9_method_66_code
def yX7_stands : MethodName := ⟨RX7, "stands", "(II)Z"⟩
abbrev cX7_copiesOf : ByteArray := prog_9_method_67_code
def yX7_copiesOf : MethodName := ⟨RX7, "copiesOf", "(I)I"⟩
abbrev cX7_canRestore : ByteArray := prog_9_method_68_code
def yX7_canRestore : MethodName := ⟨RX7, "canRestore", "(I)Z"⟩
abbrev cX7_gaps : ByteArray := prog_9_method_69_code
def yX7_gaps : MethodName := ⟨RX7, "gaps", "()I"⟩
abbrev cX7_lost : ByteArray := prog_9_method_70_code
def yX7_lost : MethodName := ⟨RX7, "lost", "()I"⟩
abbrev cX7_audit : ByteArray := prog_9_method_71_code
def yX7_audit : MethodName := ⟨RX7, "audit", "(I)I"⟩
abbrev cX7_noCase : ByteArray := prog_9_method_72_code
def yX7_noCase : MethodName := ⟨RX7, "noCase", "(I)Z"⟩
abbrev cX7_isOpen : ByteArray := prog_9_method_73_code
def yX7_isOpen : MethodName := ⟨RX7, "isOpen", "(I)Z"⟩
abbrev cX7_holders : ByteArray := prog_9_method_74_code
def yX7_holders : MethodName := ⟨RX7, "holders", "(I)I"⟩
abbrev cX7_canStrike : ByteArray := prog_9_method_75_code
def yX7_canStrike : MethodName := ⟨RX7, "canStrike", "(II)Z"⟩
def RJ0 : String := "java/lang/String"
def TJ0 : u_T := fun k => match k with
  | _ => ("", "", "", false)
def tyJ0 : Nat → FieldType := fun k => match k with
  | _ => .int
abbrev wsJ00 : List Cond := u_ws RJ0 TJ0 0
theorem nmJ0 : ∀ a, a < 0 → ∀ b, b < 0 → a ≠ b → (TJ0 a).2.1 ≠ (TJ0 b).2.1 := by decide +kernel
theorem tyJ0_ok : ∀ k, k < 0 → parseFieldDescriptor (TJ0 k).2.2.1 = some (tyJ0 k) := by decide +kernel
def RL : String := "LedgerKilnLaw"
abbrev cL_leg : ByteArray := method_3_code
def yL_leg : MethodName := ⟨RL, "leg", "(LLedgerKiln;II[J)I"⟩
abbrev cL_write : ByteArray := method_4_code
def yL_write : MethodName := ⟨RL, "write", "(LLedgerKiln;I[J)I"⟩
abbrev cL_reverse : ByteArray := method_5_code
def yL_reverse : MethodName := ⟨RL, "reverse", "(LLedgerKiln;I[J)I"⟩
abbrev cL_pass : ByteArray := method_6_code
def yL_pass : MethodName := ⟨RL, "pass", "(LLedgerKiln;I[J)I"⟩
abbrev cL_burn : ByteArray := method_7_code
def yL_burn : MethodName := ⟨RL, "burn", "(LLedgerKiln;II[J)I"⟩
abbrev cL_alter : ByteArray := method_8_code
def yL_alter : MethodName := ⟨RL, "alter", "(LLedgerKiln;III[J)I"⟩
abbrev cL_copy : ByteArray := method_9_code
def yL_copy : MethodName := ⟨RL, "copy", "(LLedgerKiln;[J)I"⟩
abbrev cL_copyFrom : ByteArray := method_10_code
def yL_copyFrom : MethodName := ⟨RL, "copyFrom", "(LLedgerKiln;I[J)I"⟩
abbrev cL_carry : ByteArray := method_11_code
def yL_carry : MethodName := ⟨RL, "carry", "(LLedgerKiln;IZ[J)I"⟩
abbrev cL_rot : ByteArray := method_12_code
def yL_rot : MethodName := ⟨RL, "rot", "(LLedgerKiln;II[J)I"⟩
abbrev cL_throwAway : ByteArray := method_13_code
def yL_throwAway : MethodName := ⟨RL, "throwAway", "(LLedgerKiln;I[J)I"⟩
abbrev cL_restore : ByteArray := method_14_code
def yL_restore : MethodName := ⟨RL, "restore", "(LLedgerKiln;I[J)I"⟩
abbrev cL_open : ByteArray := method_15_code
def yL_open : MethodName := ⟨RL, "open", "(LLedgerKiln;[J)I"⟩
abbrev cL_close : ByteArray := method_16_code
def yL_close : MethodName := ⟨RL, "close", "(LLedgerKiln;I[J)I"⟩
abbrev cL_hold : ByteArray := method_17_code
def yL_hold : MethodName := ⟨RL, "hold", "(LLedgerKiln;IIII[J)I"⟩
abbrev cL_strike : ByteArray := method_18_code
def yL_strike : MethodName := ⟨RL, "strike", "(LLedgerKiln;II[J)I"⟩
abbrev cL_state : ByteArray := method_19_code
def yL_state : MethodName := ⟨RL, "state", "(LLedgerKiln;I[J)I"⟩
abbrev cL_isTrue : ByteArray := method_20_code
def yL_isTrue : MethodName := ⟨RL, "isTrue", "(LLedgerKiln;I[J)I"⟩
abbrev cL_text : ByteArray := method_21_code
def yL_text : MethodName := ⟨RL, "text", "(LLedgerKiln;I[J)I"⟩
abbrev cL_mark : ByteArray := method_22_code
def yL_mark : MethodName := ⟨RL, "mark", "(LLedgerKiln;I[J)I"⟩
abbrev cL_reversal : ByteArray := method_23_code
def yL_reversal : MethodName := ⟨RL, "reversal", "(LLedgerKiln;I[J)I"⟩
abbrev cL_proves : ByteArray := method_24_code
def yL_proves : MethodName := ⟨RL, "proves", "(LLedgerKiln;II[J)I"⟩
abbrev cL_proven : ByteArray := method_25_code
def yL_proven : MethodName := ⟨RL, "proven", "(LLedgerKiln;II[J)I"⟩
abbrev cL_balance : ByteArray := method_26_code
def yL_balance : MethodName := ⟨RL, "balance", "(LLedgerKiln;II[J)I"⟩
abbrev cL_balanceByPages : ByteArray := method_27_code
def yL_balanceByPages : MethodName := ⟨RL, "balanceByPages", "(LLedgerKiln;II[J)I"⟩
abbrev cL_balanceByCopies : ByteArray := method_28_code
def yL_balanceByCopies : MethodName := ⟨RL, "balanceByCopies", "(LLedgerKiln;II[J)I"⟩
abbrev cL_size : ByteArray := method_29_code
def yL_size : MethodName := ⟨RL, "size", "(LLedgerKiln;I[J)I"⟩
abbrev cL_isInVault : ByteArray := method_30_code
def yL_isInVault : MethodName := ⟨RL, "isInVault", "(LLedgerKiln;I[J)I"⟩
abbrev cL_stands : ByteArray := method_31_code
def yL_stands : MethodName := ⟨RL, "stands", "(LLedgerKiln;II[J)I"⟩
abbrev cL_copiesOf : ByteArray := method_32_code
def yL_copiesOf : MethodName := ⟨RL, "copiesOf", "(LLedgerKiln;I[J)I"⟩
abbrev cL_canRestore : ByteArray := method_33_code
def yL_canRestore : MethodName := ⟨RL, "canRestore", "(LLedgerKiln;I[J)I"⟩
abbrev cL_audit : ByteArray := method_34_code
def yL_audit : MethodName := ⟨RL, "audit", "(LLedgerKiln;I[J)I"⟩
abbrev cL_isOpen : ByteArray := method_35_code
def yL_isOpen : MethodName := ⟨RL, "isOpen", "(LLedgerKiln;I[J)I"⟩
abbrev cL_holders : ByteArray := method_36_code
def yL_holders : MethodName := ⟨RL, "holders", "(LLedgerKiln;I[J)I"⟩
abbrev cL_canStrike : ByteArray := method_37_code
def yL_canStrike : MethodName := ⟨RL, "canStrike", "(LLedgerKiln;II[J)I"⟩
abbrev cL_law : ByteArray := code
def yL_law : MethodName := ⟨RL, "law", "([I)Z"⟩
def wsX4_init : List Cond := .code yX4_init cX4_init 1 none :: ([.methodLink RX4 3 objectInit, .instanceMethod objectInit, .code objectInit ⟨#[0xb1]⟩ 1 none, .arrayClass .boolean, .fieldLink RX4 9 "LedgerKiln$Sheet" "filled" "[Z", .arrayClass .int, .fieldLink RX4 15 "LedgerKiln$Sheet" "amounts" "[I"] ++ wsX40)
def wsX0_init : List Cond := .code yX0_init cX0_init 1 none :: ([.methodLink RX0 3 objectInit, .instanceMethod objectInit, .code objectInit ⟨#[0xb1]⟩ 1 none, .arrayClass .int, .fieldLink RX0 9 "LedgerKiln$Book" "days" "[I", .fieldLink RX0 15 "LedgerKiln$Book" "texts" "[I", .fieldLink RX0 18 "LedgerKiln$Book" "marks" "[I", .fieldLink RX0 21 "LedgerKiln$Book" "legCounts" "[I", .fieldLink RX0 24 "LedgerKiln$Book" "accounts" "[I", .fieldLink RX0 27 "LedgerKiln$Book" "reversals" "[I", .arrayClass .boolean, .fieldLink RX0 30 "LedgerKiln$Book" "reversing" "[Z", .fieldLink RX0 34 "LedgerKiln$Book" "struck" "[Z", .classLink RX0 37 RX4, .instantiable RX4 2, .initialized RX4, .fieldLink RX0 40 "LedgerKiln$Book" "written" "LLedgerKiln$Sheet;", .fieldLink RX0 44 "LedgerKiln$Book" "now" "LLedgerKiln$Sheet;", .fieldLink RX0 47 "LedgerKiln$Book" "count" "I", .instanceMethod yX4_init, .code yX4_init cX4_init 1 none, .methodLink RX4 3 objectInit, .fieldLink RX4 9 "LedgerKiln$Sheet" "filled" "[Z", .fieldLink RX4 15 "LedgerKiln$Sheet" "amounts" "[I"] ++ wsX00 ++ wsX40)
def wsX0_isFull : List Cond := .code yX0_isFull cX0_isFull 1 (some .boolean) :: ([.fieldLink RX0 47 "LedgerKiln$Book" "count" "I"] ++ wsX00)
def wsX3_nextMark : List Cond := .code yX3_nextMark cX3_nextMark 2 (some .int) :: ([.constant RX3 26 (1000003)])
def wsX3_markWith : List Cond := .code yX3_markWith cX3_markWith 5 (some .int) :: ([.fieldLink RX3 18 "LedgerKiln$Legs" "count" "I", .fieldLink RX3 9 "LedgerKiln$Legs" "accounts" "[I", .fieldLink RX3 15 "LedgerKiln$Legs" "amounts" "[I", .methodLink RX3 22 yX3_nextMark, .static yX3_nextMark, .initialized RX3, .code yX3_nextMark cX3_nextMark 2 (some .int), .constant RX3 26 (1000003)] ++ wsX30)
def wsX4_fill : List Cond := .code yX4_fill cX4_fill 4 none :: ([.fieldLink RX4 9 "LedgerKiln$Sheet" "filled" "[Z", .fieldLink RX4 19 "LedgerKiln$Legs" "count" "I", .fieldLink RX4 15 "LedgerKiln$Sheet" "amounts" "[I", .fieldLink RX4 25 "LedgerKiln$Legs" "amounts" "[I"] ++ wsX40 ++ wsX30)
def wsX0_append_r1 : List Cond := [Cond.fieldLink RX0 47 "LedgerKiln$Book" "count" "I", Cond.fieldLink RX0 9 "LedgerKiln$Book" "days" "[I", Cond.fieldLink RX0 15 "LedgerKiln$Book" "texts" "[I", Cond.fieldLink RX0 18 "LedgerKiln$Book" "marks" "[I", Cond.fieldLink RX0 21 "LedgerKiln$Book" "legCounts" "[I", Cond.fieldLink RX0 57 "LedgerKiln$Legs" "count" "I", Cond.fieldLink RX0 24 "LedgerKiln$Book" "accounts" "[I", Cond.fieldLink RX0 58 "LedgerKiln$Legs" "accounts" "[I", Cond.fieldLink RX0 27 "LedgerKiln$Book" "reversals" "[I", Cond.fieldLink RX0 40 "LedgerKiln$Book" "written" "LLedgerKiln$Sheet;", Cond.fieldLink RX0 44 "LedgerKiln$Book" "now" "LLedgerKiln$Sheet;", Cond.methodLink RX0 51 yX3_markWith, Cond.instanceMethod yX3_markWith, Cond.selects RX3 yX3_markWith yX3_markWith, Cond.initialized RX3, Cond.code yX3_markWith cX3_markWith 5 (some .int), Cond.fieldLink RX3 18 "LedgerKiln$Legs" "count" "I", Cond.fieldLink RX3 9 "LedgerKiln$Legs" "accounts" "[I", Cond.fieldLink RX3 15 "LedgerKiln$Legs" "amounts" "[I", Cond.methodLink RX3 22 yX3_nextMark, Cond.static yX3_nextMark, Cond.code yX3_nextMark cX3_nextMark 2 (some .int), Cond.constant RX3 26 (1000003), Cond.methodLink RX0 59 yX4_fill]
def wsX0_append_r2 : List Cond := [Cond.instanceMethod yX4_fill, Cond.selects RX4 yX4_fill yX4_fill, Cond.initialized RX4, Cond.code yX4_fill cX4_fill 4 none, Cond.fieldLink RX4 9 "LedgerKiln$Sheet" "filled" "[Z", Cond.fieldLink RX4 19 "LedgerKiln$Legs" "count" "I", Cond.fieldLink RX4 15 "LedgerKiln$Sheet" "amounts" "[I", Cond.fieldLink RX4 25 "LedgerKiln$Legs" "amounts" "[I"]
def wsX0_append : List Cond := .code yX0_append cX0_append 6 (some .int) :: ((wsX0_append_r1 ++ wsX0_append_r2) ++ wsX00 ++ wsX30 ++ wsX40)
def wsX4_amountOf : List Cond := .code yX4_amountOf cX4_amountOf 3 (some .int) :: ([.fieldLink RX4 15 "LedgerKiln$Sheet" "amounts" "[I"] ++ wsX40)
def wsX4_isLike : List Cond := .code yX4_isLike cX4_isLike 4 (some .boolean) :: ([.fieldLink RX4 9 "LedgerKiln$Sheet" "filled" "[Z", .methodLink RX4 26 yX4_amountOf, .instanceMethod yX4_amountOf, .selects RX4 yX4_amountOf yX4_amountOf, .initialized RX4, .code yX4_amountOf cX4_amountOf 3 (some .int), .fieldLink RX4 15 "LedgerKiln$Sheet" "amounts" "[I"] ++ wsX40)
def wsX0_isTrueOn : List Cond := .code yX0_isTrueOn cX0_isTrueOn 3 (some .boolean) :: ([.fieldLink RX0 40 "LedgerKiln$Book" "written" "LLedgerKiln$Sheet;", .methodLink RX0 88 yX4_isLike, .instanceMethod yX4_isLike, .selects RX4 yX4_isLike yX4_isLike, .initialized RX4, .code yX4_isLike cX4_isLike 4 (some .boolean), .fieldLink RX4 9 "LedgerKiln$Sheet" "filled" "[Z", .methodLink RX4 26 yX4_amountOf, .instanceMethod yX4_amountOf, .selects RX4 yX4_amountOf yX4_amountOf, .code yX4_amountOf cX4_amountOf 3 (some .int), .fieldLink RX4 15 "LedgerKiln$Sheet" "amounts" "[I"] ++ wsX00 ++ wsX40)
def wsX0_isReversible : List Cond := .code yX0_isReversible cX0_isReversible 2 (some .boolean) :: ([.fieldLink RX0 44 "LedgerKiln$Book" "now" "LLedgerKiln$Sheet;", .fieldLink RX0 27 "LedgerKiln$Book" "reversals" "[I", .fieldLink RX0 30 "LedgerKiln$Book" "reversing" "[Z", .methodLink RX0 63 yX0_isTrueOn, .instanceMethod yX0_isTrueOn, .selects RX0 yX0_isTrueOn yX0_isTrueOn, .initialized RX0, .code yX0_isTrueOn cX0_isTrueOn 3 (some .boolean), .fieldLink RX0 40 "LedgerKiln$Book" "written" "LLedgerKiln$Sheet;", .methodLink RX0 88 yX4_isLike, .instanceMethod yX4_isLike, .selects RX4 yX4_isLike yX4_isLike, .initialized RX4, .code yX4_isLike cX4_isLike 4 (some .boolean), .fieldLink RX4 9 "LedgerKiln$Sheet" "filled" "[Z", .methodLink RX4 26 yX4_amountOf, .instanceMethod yX4_amountOf, .selects RX4 yX4_amountOf yX4_amountOf, .code yX4_amountOf cX4_amountOf 3 (some .int), .fieldLink RX4 15 "LedgerKiln$Sheet" "amounts" "[I"] ++ wsX00 ++ wsX40)
def wsX3_clear : List Cond := .code yX3_clear cX3_clear 2 (some .int) :: ([.fieldLink RX3 18 "LedgerKiln$Legs" "count" "I"] ++ wsX30)
def wsX3_add : List Cond := .code yX3_add cX3_add 3 (some .int) :: ([.fieldLink RX3 9 "LedgerKiln$Legs" "accounts" "[I", .fieldLink RX3 18 "LedgerKiln$Legs" "count" "I", .fieldLink RX3 15 "LedgerKiln$Legs" "amounts" "[I"] ++ wsX30)
def wsX0_appendReversal_r1 : List Cond := [Cond.fieldLink RX0 21 "LedgerKiln$Book" "legCounts" "[I", Cond.fieldLink RX0 24 "LedgerKiln$Book" "accounts" "[I", Cond.fieldLink RX0 40 "LedgerKiln$Book" "written" "LLedgerKiln$Sheet;", Cond.fieldLink RX0 15 "LedgerKiln$Book" "texts" "[I", Cond.fieldLink RX0 30 "LedgerKiln$Book" "reversing" "[Z", Cond.fieldLink RX0 27 "LedgerKiln$Book" "reversals" "[I", Cond.methodLink RX0 67 yX3_clear, Cond.instanceMethod yX3_clear, Cond.selects RX3 yX3_clear yX3_clear, Cond.initialized RX3, Cond.code yX3_clear cX3_clear 2 (some .int), Cond.fieldLink RX3 18 "LedgerKiln$Legs" "count" "I", Cond.methodLink RX0 71 yX4_amountOf, Cond.instanceMethod yX4_amountOf, Cond.selects RX4 yX4_amountOf yX4_amountOf, Cond.initialized RX4, Cond.code yX4_amountOf cX4_amountOf 3 (some .int), Cond.fieldLink RX4 15 "LedgerKiln$Sheet" "amounts" "[I", Cond.methodLink RX0 74 yX3_add, Cond.instanceMethod yX3_add, Cond.selects RX3 yX3_add yX3_add, Cond.code yX3_add cX3_add 3 (some .int), Cond.fieldLink RX3 9 "LedgerKiln$Legs" "accounts" "[I", Cond.fieldLink RX3 15 "LedgerKiln$Legs" "amounts" "[I"]
def wsX0_appendReversal_r2 : List Cond := [Cond.methodLink RX0 77 yX0_append, Cond.instanceMethod yX0_append, Cond.selects RX0 yX0_append yX0_append, Cond.initialized RX0, Cond.code yX0_append cX0_append 6 (some .int), Cond.fieldLink RX0 47 "LedgerKiln$Book" "count" "I", Cond.fieldLink RX0 9 "LedgerKiln$Book" "days" "[I", Cond.fieldLink RX0 18 "LedgerKiln$Book" "marks" "[I", Cond.fieldLink RX0 57 "LedgerKiln$Legs" "count" "I", Cond.fieldLink RX0 58 "LedgerKiln$Legs" "accounts" "[I", Cond.fieldLink RX0 44 "LedgerKiln$Book" "now" "LLedgerKiln$Sheet;", Cond.methodLink RX0 51 yX3_markWith, Cond.instanceMethod yX3_markWith, Cond.selects RX3 yX3_markWith yX3_markWith, Cond.code yX3_markWith cX3_markWith 5 (some .int), Cond.methodLink RX3 22 yX3_nextMark, Cond.static yX3_nextMark, Cond.code yX3_nextMark cX3_nextMark 2 (some .int), Cond.constant RX3 26 (1000003), Cond.methodLink RX0 59 yX4_fill, Cond.instanceMethod yX4_fill, Cond.selects RX4 yX4_fill yX4_fill, Cond.code yX4_fill cX4_fill 4 none, Cond.fieldLink RX4 9 "LedgerKiln$Sheet" "filled" "[Z"]
def wsX0_appendReversal_r3 : List Cond := [Cond.fieldLink RX4 19 "LedgerKiln$Legs" "count" "I", Cond.fieldLink RX4 25 "LedgerKiln$Legs" "amounts" "[I"]
def wsX0_appendReversal : List Cond := .code yX0_appendReversal cX0_appendReversal 5 (some .int) :: ((wsX0_appendReversal_r1 ++ (wsX0_appendReversal_r2 ++ wsX0_appendReversal_r3)) ++ wsX00 ++ wsX30 ++ wsX40)
def wsX4_blank : List Cond := .code yX4_blank cX4_blank 4 (some .boolean) :: ([.fieldLink RX4 9 "LedgerKiln$Sheet" "filled" "[Z", .fieldLink RX4 15 "LedgerKiln$Sheet" "amounts" "[I"] ++ wsX40)
def wsX0_markStruck : List Cond := .code yX0_markStruck cX0_markStruck 2 none :: ([.fieldLink RX0 34 "LedgerKiln$Book" "struck" "[Z", .fieldLink RX0 44 "LedgerKiln$Book" "now" "LLedgerKiln$Sheet;", .methodLink RX0 81 yX4_blank, .instanceMethod yX4_blank, .selects RX4 yX4_blank yX4_blank, .initialized RX4, .code yX4_blank cX4_blank 4 (some .boolean), .fieldLink RX4 9 "LedgerKiln$Sheet" "filled" "[Z", .fieldLink RX4 15 "LedgerKiln$Sheet" "amounts" "[I"] ++ wsX00 ++ wsX40)
def wsX4_isFilled : List Cond := .code yX4_isFilled cX4_isFilled 2 (some .boolean) :: ([.fieldLink RX4 9 "LedgerKiln$Sheet" "filled" "[Z"] ++ wsX40)
def wsX0_stateOf : List Cond := .code yX0_stateOf cX0_stateOf 2 (some .int) :: ([.fieldLink RX0 34 "LedgerKiln$Book" "struck" "[Z", .fieldLink RX0 44 "LedgerKiln$Book" "now" "LLedgerKiln$Sheet;", .methodLink RX0 85 yX4_isFilled, .instanceMethod yX4_isFilled, .selects RX4 yX4_isFilled yX4_isFilled, .initialized RX4, .code yX4_isFilled cX4_isFilled 2 (some .boolean), .fieldLink RX4 9 "LedgerKiln$Sheet" "filled" "[Z"] ++ wsX00 ++ wsX40)
def wsX0_hasLegFor : List Cond := .code yX0_hasLegFor cX0_hasLegFor 4 (some .boolean) :: ([.fieldLink RX0 21 "LedgerKiln$Book" "legCounts" "[I", .fieldLink RX0 24 "LedgerKiln$Book" "accounts" "[I"] ++ wsX00)
def wsX0_sumOn : List Cond := .code yX0_sumOn cX0_sumOn 6 (some .int) :: ([.fieldLink RX0 21 "LedgerKiln$Book" "legCounts" "[I", .fieldLink RX0 24 "LedgerKiln$Book" "accounts" "[I", .methodLink RX0 71 yX4_amountOf, .instanceMethod yX4_amountOf, .selects RX4 yX4_amountOf yX4_amountOf, .initialized RX4, .code yX4_amountOf cX4_amountOf 3 (some .int), .fieldLink RX4 15 "LedgerKiln$Sheet" "amounts" "[I"] ++ wsX00 ++ wsX40)
def wsX0_countUpTo : List Cond := .code yX0_countUpTo cX0_countUpTo 3 (some .int) :: ([.fieldLink RX0 47 "LedgerKiln$Book" "count" "I", .fieldLink RX0 9 "LedgerKiln$Book" "days" "[I"] ++ wsX00)
def wsX0_countBurnt : List Cond := .code yX0_countBurnt cX0_countBurnt 3 (some .int) :: ([.fieldLink RX0 47 "LedgerKiln$Book" "count" "I", .methodLink RX0 91 yX0_stateOf, .instanceMethod yX0_stateOf, .selects RX0 yX0_stateOf yX0_stateOf, .initialized RX0, .code yX0_stateOf cX0_stateOf 2 (some .int), .fieldLink RX0 34 "LedgerKiln$Book" "struck" "[Z", .fieldLink RX0 44 "LedgerKiln$Book" "now" "LLedgerKiln$Sheet;", .methodLink RX0 85 yX4_isFilled, .instanceMethod yX4_isFilled, .selects RX4 yX4_isFilled yX4_isFilled, .initialized RX4, .code yX4_isFilled cX4_isFilled 2 (some .boolean), .fieldLink RX4 9 "LedgerKiln$Sheet" "filled" "[Z"] ++ wsX00 ++ wsX40)
def wsX1_init : List Cond := .code yX1_init cX1_init 4 none :: ([.methodLink RX1 1 objectInit, .instanceMethod objectInit, .code objectInit ⟨#[0xb1]⟩ 1 none, .classLink RX1 7 RX4, .instantiable RX4 2, .initialized RX4, .fieldLink RX1 10 "LedgerKiln$Copy" "sheet" "LLedgerKiln$Sheet;", .fieldLink RX1 16 "LedgerKiln$Copy" "inVault" "Z", .fieldLink RX1 20 "LedgerKiln$Copy" "base" "LLedgerKiln$Copy;", .fieldLink RX1 24 "LedgerKiln$Copy" "first" "I", .fieldLink RX1 28 "LedgerKiln$Copy" "end" "I", .instanceMethod yX4_init, .code yX4_init cX4_init 1 none, .methodLink RX4 3 objectInit, .arrayClass .boolean, .fieldLink RX4 9 "LedgerKiln$Sheet" "filled" "[Z", .arrayClass .int, .fieldLink RX4 15 "LedgerKiln$Sheet" "amounts" "[I"] ++ wsX40 ++ wsX10)
def wsX1_isChainInVault : List Cond := .code yX1_isChainInVault cX1_isChainInVault 2 (some .boolean) :: ([.fieldLink RX1 16 "LedgerKiln$Copy" "inVault" "Z", .fieldLink RX1 20 "LedgerKiln$Copy" "base" "LLedgerKiln$Copy;"] ++ wsX10)
def wsX1_blankStruck : List Cond := .code yX1_blankStruck cX1_blankStruck 4 (some .int) :: ([.fieldLink RX1 24 "LedgerKiln$Copy" "first" "I", .fieldLink RX1 28 "LedgerKiln$Copy" "end" "I", .fieldLink RX1 31 "LedgerKiln$Book" "struck" "[Z", .fieldLink RX1 10 "LedgerKiln$Copy" "sheet" "LLedgerKiln$Sheet;", .methodLink RX1 37 yX4_blank, .instanceMethod yX4_blank, .selects RX4 yX4_blank yX4_blank, .initialized RX4, .code yX4_blank cX4_blank 4 (some .boolean), .fieldLink RX4 9 "LedgerKiln$Sheet" "filled" "[Z", .fieldLink RX4 15 "LedgerKiln$Sheet" "amounts" "[I"] ++ wsX10 ++ wsX00 ++ wsX40)
def wsX4_take : List Cond := .code yX4_take cX4_take 4 none :: ([.fieldLink RX4 9 "LedgerKiln$Sheet" "filled" "[Z", .fieldLink RX4 15 "LedgerKiln$Sheet" "amounts" "[I"] ++ wsX40)
def wsX1_giveBack_r1 : List Cond := [Cond.fieldLink RX1 24 "LedgerKiln$Copy" "first" "I", Cond.fieldLink RX1 28 "LedgerKiln$Copy" "end" "I", Cond.fieldLink RX1 31 "LedgerKiln$Book" "struck" "[Z", Cond.fieldLink RX1 41 "LedgerKiln$Book" "now" "LLedgerKiln$Sheet;", Cond.fieldLink RX1 10 "LedgerKiln$Copy" "sheet" "LLedgerKiln$Sheet;", Cond.methodLink RX1 44 yX0_isTrueOn, Cond.instanceMethod yX0_isTrueOn, Cond.selects RX0 yX0_isTrueOn yX0_isTrueOn, Cond.initialized RX0, Cond.code yX0_isTrueOn cX0_isTrueOn 3 (some .boolean), Cond.fieldLink RX0 40 "LedgerKiln$Book" "written" "LLedgerKiln$Sheet;", Cond.methodLink RX0 88 yX4_isLike, Cond.instanceMethod yX4_isLike, Cond.selects RX4 yX4_isLike yX4_isLike, Cond.initialized RX4, Cond.code yX4_isLike cX4_isLike 4 (some .boolean), Cond.fieldLink RX4 9 "LedgerKiln$Sheet" "filled" "[Z", Cond.methodLink RX4 26 yX4_amountOf, Cond.instanceMethod yX4_amountOf, Cond.selects RX4 yX4_amountOf yX4_amountOf, Cond.code yX4_amountOf cX4_amountOf 3 (some .int), Cond.fieldLink RX4 15 "LedgerKiln$Sheet" "amounts" "[I", Cond.methodLink RX1 48 yX4_take, Cond.instanceMethod yX4_take]
def wsX1_giveBack_r2 : List Cond := [Cond.selects RX4 yX4_take yX4_take, Cond.code yX4_take cX4_take 4 none]
def wsX1_giveBack : List Cond := .code yX1_giveBack cX1_giveBack 5 (some .int) :: ((wsX1_giveBack_r1 ++ wsX1_giveBack_r2) ++ wsX10 ++ wsX00 ++ wsX40)
def wsX2_init : List Cond := .code yX2_init cX2_init 1 none :: ([.methodLink RX2 3 objectInit, .instanceMethod objectInit, .code objectInit ⟨#[0xb1]⟩ 1 none, .arrayClass .boolean, .fieldLink RX2 9 "LedgerKiln$Court" "running" "[Z", .fieldLink RX2 15 "LedgerKiln$Court" "opened" "I", .arrayClass .int, .fieldLink RX2 19 "LedgerKiln$Court" "holdCases" "[I", .fieldLink RX2 23 "LedgerKiln$Court" "holdAccounts" "[I", .fieldLink RX2 26 "LedgerKiln$Court" "holdFroms" "[I", .fieldLink RX2 29 "LedgerKiln$Court" "holdTos" "[I", .fieldLink RX2 32 "LedgerKiln$Court" "holds" "I"] ++ wsX20)
def wsX2_isFull : List Cond := .code yX2_isFull cX2_isFull 1 (some .boolean) :: ([.fieldLink RX2 15 "LedgerKiln$Court" "opened" "I"] ++ wsX20)
def wsX2_openNext : List Cond := .code yX2_openNext cX2_openNext 1 (some .int) :: ([.fieldLink RX2 9 "LedgerKiln$Court" "running" "[Z", .fieldLink RX2 15 "LedgerKiln$Court" "opened" "I"] ++ wsX20)
def wsX2_hasAllHolds : List Cond := .code yX2_hasAllHolds cX2_hasAllHolds 1 (some .boolean) :: ([.fieldLink RX2 32 "LedgerKiln$Court" "holds" "I"] ++ wsX20)
def wsX2_addHold : List Cond := .code yX2_addHold cX2_addHold 5 none :: ([.fieldLink RX2 19 "LedgerKiln$Court" "holdCases" "[I", .fieldLink RX2 32 "LedgerKiln$Court" "holds" "I", .fieldLink RX2 23 "LedgerKiln$Court" "holdAccounts" "[I", .fieldLink RX2 26 "LedgerKiln$Court" "holdFroms" "[I", .fieldLink RX2 29 "LedgerKiln$Court" "holdTos" "[I"] ++ wsX20)
def wsX2_holdersOf : List Cond := .code yX2_holdersOf cX2_holdersOf 7 (some .int) :: ([.fieldLink RX2 35 "LedgerKiln$Book" "days" "[I", .fieldLink RX2 32 "LedgerKiln$Court" "holds" "I", .fieldLink RX2 26 "LedgerKiln$Court" "holdFroms" "[I", .fieldLink RX2 29 "LedgerKiln$Court" "holdTos" "[I", .fieldLink RX2 9 "LedgerKiln$Court" "running" "[Z", .fieldLink RX2 19 "LedgerKiln$Court" "holdCases" "[I", .fieldLink RX2 23 "LedgerKiln$Court" "holdAccounts" "[I", .methodLink RX2 40 yX0_hasLegFor, .instanceMethod yX0_hasLegFor, .selects RX0 yX0_hasLegFor yX0_hasLegFor, .initialized RX0, .code yX0_hasLegFor cX0_hasLegFor 4 (some .boolean), .fieldLink RX0 21 "LedgerKiln$Book" "legCounts" "[I", .fieldLink RX0 24 "LedgerKiln$Book" "accounts" "[I"] ++ wsX00 ++ wsX20)
def wsX2_countHeld : List Cond := .code yX2_countHeld cX2_countHeld 5 (some .int) :: ([.fieldLink RX2 44 "LedgerKiln$Book" "count" "I", .methodLink RX2 47 yX2_holdersOf, .instanceMethod yX2_holdersOf, .selects RX2 yX2_holdersOf yX2_holdersOf, .initialized RX2, .code yX2_holdersOf cX2_holdersOf 7 (some .int), .fieldLink RX2 35 "LedgerKiln$Book" "days" "[I", .fieldLink RX2 32 "LedgerKiln$Court" "holds" "I", .fieldLink RX2 26 "LedgerKiln$Court" "holdFroms" "[I", .fieldLink RX2 29 "LedgerKiln$Court" "holdTos" "[I", .fieldLink RX2 9 "LedgerKiln$Court" "running" "[Z", .fieldLink RX2 19 "LedgerKiln$Court" "holdCases" "[I", .fieldLink RX2 23 "LedgerKiln$Court" "holdAccounts" "[I", .methodLink RX2 40 yX0_hasLegFor, .instanceMethod yX0_hasLegFor, .selects RX0 yX0_hasLegFor yX0_hasLegFor, .initialized RX0, .code yX0_hasLegFor cX0_hasLegFor 4 (some .boolean), .fieldLink RX0 21 "LedgerKiln$Book" "legCounts" "[I", .fieldLink RX0 24 "LedgerKiln$Book" "accounts" "[I"] ++ wsX00 ++ wsX20)
def wsX2_countHeldAlone : List Cond := .code yX2_countHeldAlone cX2_countHeldAlone 5 (some .int) :: ([.fieldLink RX2 44 "LedgerKiln$Book" "count" "I", .methodLink RX2 47 yX2_holdersOf, .instanceMethod yX2_holdersOf, .selects RX2 yX2_holdersOf yX2_holdersOf, .initialized RX2, .code yX2_holdersOf cX2_holdersOf 7 (some .int), .fieldLink RX2 35 "LedgerKiln$Book" "days" "[I", .fieldLink RX2 32 "LedgerKiln$Court" "holds" "I", .fieldLink RX2 26 "LedgerKiln$Court" "holdFroms" "[I", .fieldLink RX2 29 "LedgerKiln$Court" "holdTos" "[I", .fieldLink RX2 9 "LedgerKiln$Court" "running" "[Z", .fieldLink RX2 19 "LedgerKiln$Court" "holdCases" "[I", .fieldLink RX2 23 "LedgerKiln$Court" "holdAccounts" "[I", .methodLink RX2 40 yX0_hasLegFor, .instanceMethod yX0_hasLegFor, .selects RX0 yX0_hasLegFor yX0_hasLegFor, .initialized RX0, .code yX0_hasLegFor cX0_hasLegFor 4 (some .boolean), .fieldLink RX0 21 "LedgerKiln$Book" "legCounts" "[I", .fieldLink RX0 24 "LedgerKiln$Book" "accounts" "[I"] ++ wsX00 ++ wsX20)
def wsX2_holdsAnyIn_r1 : List Cond := [Cond.fieldLink RX2 51 "LedgerKiln$Copy" "first" "I", Cond.fieldLink RX2 56 "LedgerKiln$Copy" "end" "I", Cond.fieldLink RX2 59 "LedgerKiln$Copy" "sheet" "LLedgerKiln$Sheet;", Cond.methodLink RX2 63 yX4_isFilled, Cond.instanceMethod yX4_isFilled, Cond.selects RX4 yX4_isFilled yX4_isFilled, Cond.initialized RX4, Cond.code yX4_isFilled cX4_isFilled 2 (some .boolean), Cond.fieldLink RX4 9 "LedgerKiln$Sheet" "filled" "[Z", Cond.methodLink RX2 47 yX2_holdersOf, Cond.instanceMethod yX2_holdersOf, Cond.selects RX2 yX2_holdersOf yX2_holdersOf, Cond.initialized RX2, Cond.code yX2_holdersOf cX2_holdersOf 7 (some .int), Cond.fieldLink RX2 35 "LedgerKiln$Book" "days" "[I", Cond.fieldLink RX2 32 "LedgerKiln$Court" "holds" "I", Cond.fieldLink RX2 26 "LedgerKiln$Court" "holdFroms" "[I", Cond.fieldLink RX2 29 "LedgerKiln$Court" "holdTos" "[I", Cond.fieldLink RX2 9 "LedgerKiln$Court" "running" "[Z", Cond.fieldLink RX2 19 "LedgerKiln$Court" "holdCases" "[I", Cond.fieldLink RX2 23 "LedgerKiln$Court" "holdAccounts" "[I", Cond.methodLink RX2 40 yX0_hasLegFor, Cond.instanceMethod yX0_hasLegFor, Cond.selects RX0 yX0_hasLegFor yX0_hasLegFor]
def wsX2_holdsAnyIn_r2 : List Cond := [Cond.initialized RX0, Cond.code yX0_hasLegFor cX0_hasLegFor 4 (some .boolean), Cond.fieldLink RX0 21 "LedgerKiln$Book" "legCounts" "[I", Cond.fieldLink RX0 24 "LedgerKiln$Book" "accounts" "[I"]
def wsX2_holdsAnyIn : List Cond := .code yX2_holdsAnyIn cX2_holdsAnyIn 4 (some .boolean) :: ((wsX2_holdsAnyIn_r1 ++ wsX2_holdsAnyIn_r2) ++ wsX10 ++ wsX40 ++ wsX00 ++ wsX20)
def wsX2_maySentence_r1 : List Cond := [Cond.fieldLink RX2 9 "LedgerKiln$Court" "running" "[Z", Cond.fieldLink RX2 69 "LedgerKiln$Book" "now" "LLedgerKiln$Sheet;", Cond.methodLink RX2 47 yX2_holdersOf, Cond.instanceMethod yX2_holdersOf, Cond.selects RX2 yX2_holdersOf yX2_holdersOf, Cond.initialized RX2, Cond.code yX2_holdersOf cX2_holdersOf 7 (some .int), Cond.fieldLink RX2 35 "LedgerKiln$Book" "days" "[I", Cond.fieldLink RX2 32 "LedgerKiln$Court" "holds" "I", Cond.fieldLink RX2 26 "LedgerKiln$Court" "holdFroms" "[I", Cond.fieldLink RX2 29 "LedgerKiln$Court" "holdTos" "[I", Cond.fieldLink RX2 19 "LedgerKiln$Court" "holdCases" "[I", Cond.fieldLink RX2 23 "LedgerKiln$Court" "holdAccounts" "[I", Cond.methodLink RX2 40 yX0_hasLegFor, Cond.instanceMethod yX0_hasLegFor, Cond.selects RX0 yX0_hasLegFor yX0_hasLegFor, Cond.initialized RX0, Cond.code yX0_hasLegFor cX0_hasLegFor 4 (some .boolean), Cond.fieldLink RX0 21 "LedgerKiln$Book" "legCounts" "[I", Cond.fieldLink RX0 24 "LedgerKiln$Book" "accounts" "[I", Cond.methodLink RX2 72 yX0_isTrueOn, Cond.instanceMethod yX0_isTrueOn, Cond.selects RX0 yX0_isTrueOn yX0_isTrueOn, Cond.code yX0_isTrueOn cX0_isTrueOn 3 (some .boolean)]
def wsX2_maySentence_r2 : List Cond := [Cond.fieldLink RX0 40 "LedgerKiln$Book" "written" "LLedgerKiln$Sheet;", Cond.methodLink RX0 88 yX4_isLike, Cond.instanceMethod yX4_isLike, Cond.selects RX4 yX4_isLike yX4_isLike, Cond.initialized RX4, Cond.code yX4_isLike cX4_isLike 4 (some .boolean), Cond.fieldLink RX4 9 "LedgerKiln$Sheet" "filled" "[Z", Cond.methodLink RX4 26 yX4_amountOf, Cond.instanceMethod yX4_amountOf, Cond.selects RX4 yX4_amountOf yX4_amountOf, Cond.code yX4_amountOf cX4_amountOf 3 (some .int), Cond.fieldLink RX4 15 "LedgerKiln$Sheet" "amounts" "[I"]
def wsX2_maySentence : List Cond := .code yX2_maySentence cX2_maySentence 5 (some .boolean) :: ((wsX2_maySentence_r1 ++ wsX2_maySentence_r2) ++ wsX20 ++ wsX00 ++ wsX40)
def wsX3_init : List Cond := .code yX3_init cX3_init 1 none :: ([.methodLink RX3 3 objectInit, .instanceMethod objectInit, .code objectInit ⟨#[0xb1]⟩ 1 none, .arrayClass .int, .fieldLink RX3 9 "LedgerKiln$Legs" "accounts" "[I", .fieldLink RX3 15 "LedgerKiln$Legs" "amounts" "[I", .fieldLink RX3 18 "LedgerKiln$Legs" "count" "I"] ++ wsX30)
def wsX3_isFull : List Cond := .code yX3_isFull cX3_isFull 1 (some .boolean) :: ([.fieldLink RX3 18 "LedgerKiln$Legs" "count" "I"] ++ wsX30)
def wsX3_isBalanced : List Cond := .code yX3_isBalanced cX3_isBalanced 3 (some .boolean) :: ([.fieldLink RX3 18 "LedgerKiln$Legs" "count" "I", .fieldLink RX3 15 "LedgerKiln$Legs" "amounts" "[I"] ++ wsX30)
def wsX4_replace : List Cond := .code yX4_replace cX4_replace 5 (some .int) :: ([.fieldLink RX4 15 "LedgerKiln$Sheet" "amounts" "[I"] ++ wsX40)
def wsX5_init : List Cond := .code yX5_init cX5_init 1 none :: ([.methodLink RX5 3 objectInit, .instanceMethod objectInit, .code objectInit ⟨#[0xb1]⟩ 1 none, .classLink RX5 9 RX1, .fieldLink RX5 11 "LedgerKiln$Vault" "copies" "[LLedgerKiln$Copy;", .fieldLink RX5 17 "LedgerKiln$Vault" "made" "I"] ++ wsX50)
def wsX5_isFull : List Cond := .code yX5_isFull cX5_isFull 1 (some .boolean) :: ([.fieldLink RX5 17 "LedgerKiln$Vault" "made" "I"] ++ wsX50)
def wsX5_find : List Cond := .code yX5_find cX5_find 2 (some (.object "LedgerKiln$Copy")) :: ([.fieldLink RX5 17 "LedgerKiln$Vault" "made" "I", .fieldLink RX5 11 "LedgerKiln$Vault" "copies" "[LLedgerKiln$Copy;"] ++ wsX50)
def wsX5_make_r1 : List Cond := [Cond.classLink RX5 9 RX1, Cond.instantiable RX1 5, Cond.initialized RX1, Cond.fieldLink RX5 21 "LedgerKiln$Copy" "end" "I", Cond.fieldLink RX5 24 "LedgerKiln$Book" "count" "I", Cond.fieldLink RX5 32 "LedgerKiln$Copy" "first" "I", Cond.fieldLink RX5 35 "LedgerKiln$Copy" "sheet" "LLedgerKiln$Sheet;", Cond.fieldLink RX5 39 "LedgerKiln$Book" "now" "LLedgerKiln$Sheet;", Cond.fieldLink RX5 11 "LedgerKiln$Vault" "copies" "[LLedgerKiln$Copy;", Cond.fieldLink RX5 17 "LedgerKiln$Vault" "made" "I", Cond.methodLink RX5 29 yX1_init, Cond.instanceMethod yX1_init, Cond.code yX1_init cX1_init 4 none, Cond.methodLink RX1 1 objectInit, Cond.instanceMethod objectInit, Cond.code objectInit ⟨#[0xb1]⟩ 1 none, Cond.classLink RX1 7 RX4, Cond.instantiable RX4 2, Cond.initialized RX4, Cond.fieldLink RX1 10 "LedgerKiln$Copy" "sheet" "LLedgerKiln$Sheet;", Cond.fieldLink RX1 16 "LedgerKiln$Copy" "inVault" "Z", Cond.fieldLink RX1 20 "LedgerKiln$Copy" "base" "LLedgerKiln$Copy;", Cond.fieldLink RX1 24 "LedgerKiln$Copy" "first" "I", Cond.fieldLink RX1 28 "LedgerKiln$Copy" "end" "I"]
def wsX5_make_r2 : List Cond := [Cond.instanceMethod yX4_init, Cond.code yX4_init cX4_init 1 none, Cond.methodLink RX4 3 objectInit, Cond.arrayClass .boolean, Cond.fieldLink RX4 9 "LedgerKiln$Sheet" "filled" "[Z", Cond.arrayClass .int, Cond.fieldLink RX4 15 "LedgerKiln$Sheet" "amounts" "[I", Cond.methodLink RX5 42 yX4_take, Cond.instanceMethod yX4_take, Cond.selects RX4 yX4_take yX4_take, Cond.code yX4_take cX4_take 4 none]
def wsX5_make : List Cond := .code yX5_make cX5_make 5 (some .int) :: ((wsX5_make_r1 ++ wsX5_make_r2) ++ wsX10 ++ wsX00 ++ wsX50 ++ wsX40)
def wsX5_remove : List Cond := .code yX5_remove cX5_remove 2 none :: ([.fieldLink RX5 11 "LedgerKiln$Vault" "copies" "[LLedgerKiln$Copy;"] ++ wsX50)
def wsX5_countThere : List Cond := .code yX5_countThere cX5_countThere 3 (some .int) :: ([.fieldLink RX5 17 "LedgerKiln$Vault" "made" "I", .fieldLink RX5 11 "LedgerKiln$Vault" "copies" "[LLedgerKiln$Copy;"] ++ wsX50)
def wsX5_isBase : List Cond := .code yX5_isBase cX5_isBase 4 (some .boolean) :: ([.fieldLink RX5 17 "LedgerKiln$Vault" "made" "I", .fieldLink RX5 11 "LedgerKiln$Vault" "copies" "[LLedgerKiln$Copy;", .fieldLink RX5 48 "LedgerKiln$Copy" "base" "LLedgerKiln$Copy;"] ++ wsX50 ++ wsX10)
def wsX5_countFilled : List Cond := .code yX5_countFilled cX5_countFilled 5 (some .int) :: ([.fieldLink RX5 17 "LedgerKiln$Vault" "made" "I", .fieldLink RX5 11 "LedgerKiln$Vault" "copies" "[LLedgerKiln$Copy;", .fieldLink RX5 35 "LedgerKiln$Copy" "sheet" "LLedgerKiln$Sheet;", .methodLink RX5 52 yX4_isFilled, .instanceMethod yX4_isFilled, .selects RX4 yX4_isFilled yX4_isFilled, .initialized RX4, .code yX4_isFilled cX4_isFilled 2 (some .boolean), .fieldLink RX4 9 "LedgerKiln$Sheet" "filled" "[Z"] ++ wsX50 ++ wsX10 ++ wsX40)
def wsX5_blankInVault : List Cond := .code yX5_blankInVault cX5_blankInVault 4 (some .int) :: ([.fieldLink RX5 17 "LedgerKiln$Vault" "made" "I", .fieldLink RX5 11 "LedgerKiln$Vault" "copies" "[LLedgerKiln$Copy;", .fieldLink RX5 56 "LedgerKiln$Copy" "inVault" "Z", .fieldLink RX5 35 "LedgerKiln$Copy" "sheet" "LLedgerKiln$Sheet;", .methodLink RX5 60 yX4_blank, .instanceMethod yX4_blank, .selects RX4 yX4_blank yX4_blank, .initialized RX4, .code yX4_blank cX4_blank 4 (some .boolean), .fieldLink RX4 9 "LedgerKiln$Sheet" "filled" "[Z", .fieldLink RX4 15 "LedgerKiln$Sheet" "amounts" "[I", .methodLink RX5 63 yX5_countFilled, .instanceMethod yX5_countFilled, .selects RX5 yX5_countFilled yX5_countFilled, .initialized RX5, .code yX5_countFilled cX5_countFilled 5 (some .int), .methodLink RX5 52 yX4_isFilled, .instanceMethod yX4_isFilled, .selects RX4 yX4_isFilled yX4_isFilled, .code yX4_isFilled cX4_isFilled 2 (some .boolean)] ++ wsX50 ++ wsX10 ++ wsX40)
def wsX5_hasTrue : List Cond := .code yX5_hasTrue cX5_hasTrue 6 (some .boolean) :: ([.fieldLink RX5 17 "LedgerKiln$Vault" "made" "I", .fieldLink RX5 11 "LedgerKiln$Vault" "copies" "[LLedgerKiln$Copy;", .fieldLink RX5 56 "LedgerKiln$Copy" "inVault" "Z", .fieldLink RX5 35 "LedgerKiln$Copy" "sheet" "LLedgerKiln$Sheet;", .methodLink RX5 67 yX0_isTrueOn, .instanceMethod yX0_isTrueOn, .selects RX0 yX0_isTrueOn yX0_isTrueOn, .initialized RX0, .code yX0_isTrueOn cX0_isTrueOn 3 (some .boolean), .fieldLink RX0 40 "LedgerKiln$Book" "written" "LLedgerKiln$Sheet;", .methodLink RX0 88 yX4_isLike, .instanceMethod yX4_isLike, .selects RX4 yX4_isLike yX4_isLike, .initialized RX4, .code yX4_isLike cX4_isLike 4 (some .boolean), .fieldLink RX4 9 "LedgerKiln$Sheet" "filled" "[Z", .methodLink RX4 26 yX4_amountOf, .instanceMethod yX4_amountOf, .selects RX4 yX4_amountOf yX4_amountOf, .code yX4_amountOf cX4_amountOf 3 (some .int), .fieldLink RX4 15 "LedgerKiln$Sheet" "amounts" "[I"] ++ wsX50 ++ wsX10 ++ wsX00 ++ wsX40)
def wsX6_init_r1 : List Cond := [Cond.methodLink RX6 1 objectInit, Cond.instanceMethod objectInit, Cond.code objectInit ⟨#[0xb1]⟩ 1 none, Cond.classLink RX6 7 RX3, Cond.instantiable RX3 3, Cond.initialized RX3, Cond.fieldLink RX6 10 "LedgerKiln" "draft" "LLedgerKiln$Legs;", Cond.fieldLink RX6 16 "LedgerKiln" "opposite" "LLedgerKiln$Legs;", Cond.classLink RX6 19 RX0, Cond.instantiable RX0 11, Cond.initialized RX0, Cond.fieldLink RX6 22 "LedgerKiln" "book" "LLedgerKiln$Book;", Cond.classLink RX6 26 RX5, Cond.instantiable RX5 2, Cond.initialized RX5, Cond.fieldLink RX6 29 "LedgerKiln" "vault" "LLedgerKiln$Vault;", Cond.classLink RX6 33 RX2, Cond.instantiable RX2 7, Cond.initialized RX2, Cond.fieldLink RX6 36 "LedgerKiln" "court" "LLedgerKiln$Court;", Cond.fieldLink RX6 40 "LedgerKiln" "today" "I", Cond.instanceMethod yX3_init, Cond.code yX3_init cX3_init 1 none, Cond.methodLink RX3 3 objectInit]
def wsX6_init_r2 : List Cond := [Cond.arrayClass .int, Cond.fieldLink RX3 9 "LedgerKiln$Legs" "accounts" "[I", Cond.fieldLink RX3 15 "LedgerKiln$Legs" "amounts" "[I", Cond.fieldLink RX3 18 "LedgerKiln$Legs" "count" "I", Cond.instanceMethod yX0_init, Cond.code yX0_init cX0_init 1 none, Cond.methodLink RX0 3 objectInit, Cond.fieldLink RX0 9 "LedgerKiln$Book" "days" "[I", Cond.fieldLink RX0 15 "LedgerKiln$Book" "texts" "[I", Cond.fieldLink RX0 18 "LedgerKiln$Book" "marks" "[I", Cond.fieldLink RX0 21 "LedgerKiln$Book" "legCounts" "[I", Cond.fieldLink RX0 24 "LedgerKiln$Book" "accounts" "[I", Cond.fieldLink RX0 27 "LedgerKiln$Book" "reversals" "[I", Cond.arrayClass .boolean, Cond.fieldLink RX0 30 "LedgerKiln$Book" "reversing" "[Z", Cond.fieldLink RX0 34 "LedgerKiln$Book" "struck" "[Z", Cond.classLink RX0 37 RX4, Cond.instantiable RX4 2, Cond.initialized RX4, Cond.fieldLink RX0 40 "LedgerKiln$Book" "written" "LLedgerKiln$Sheet;", Cond.fieldLink RX0 44 "LedgerKiln$Book" "now" "LLedgerKiln$Sheet;", Cond.fieldLink RX0 47 "LedgerKiln$Book" "count" "I", Cond.instanceMethod yX4_init, Cond.code yX4_init cX4_init 1 none]
def wsX6_init_r3 : List Cond := [Cond.methodLink RX4 3 objectInit, Cond.fieldLink RX4 9 "LedgerKiln$Sheet" "filled" "[Z", Cond.fieldLink RX4 15 "LedgerKiln$Sheet" "amounts" "[I", Cond.instanceMethod yX5_init, Cond.code yX5_init cX5_init 1 none, Cond.methodLink RX5 3 objectInit, Cond.classLink RX5 9 RX1, Cond.fieldLink RX5 11 "LedgerKiln$Vault" "copies" "[LLedgerKiln$Copy;", Cond.fieldLink RX5 17 "LedgerKiln$Vault" "made" "I", Cond.instanceMethod yX2_init, Cond.code yX2_init cX2_init 1 none, Cond.methodLink RX2 3 objectInit, Cond.fieldLink RX2 9 "LedgerKiln$Court" "running" "[Z", Cond.fieldLink RX2 15 "LedgerKiln$Court" "opened" "I", Cond.fieldLink RX2 19 "LedgerKiln$Court" "holdCases" "[I", Cond.fieldLink RX2 23 "LedgerKiln$Court" "holdAccounts" "[I", Cond.fieldLink RX2 26 "LedgerKiln$Court" "holdFroms" "[I", Cond.fieldLink RX2 29 "LedgerKiln$Court" "holdTos" "[I", Cond.fieldLink RX2 32 "LedgerKiln$Court" "holds" "I"]
def wsX6_init : List Cond := .code yX6_init cX6_init 1 none :: ((wsX6_init_r1 ++ (wsX6_init_r2 ++ wsX6_init_r3)) ++ wsX30 ++ wsX60 ++ wsX00 ++ wsX50 ++ wsX20 ++ wsX40)
def wsX6_needAccount : List Cond := .code yX6_needAccount cX6_needAccount 1 none :: ([.classLink RX6 304 "java/lang/IndexOutOfBoundsException", .initialized "java/lang/IndexOutOfBoundsException"] ++ (vx_atS RX6 308 "java/lang/IndexOutOfBoundsException" ["java/lang/RuntimeException", "java/lang/Exception"]).filter goodWord)
def wsX6_needAmount : List Cond := .code yX6_needAmount cX6_needAmount 1 none :: ([.classLink RX6 51 "java/lang/IllegalArgumentException", .initialized "java/lang/IllegalArgumentException"] ++ (vx_atS RX6 55 "java/lang/IllegalArgumentException" ["java/lang/RuntimeException", "java/lang/Exception"]).filter goodWord)
def wsX6_leg_r1 : List Cond := [Cond.classLink RX6 51 "java/lang/IllegalArgumentException", Cond.initialized "java/lang/IllegalArgumentException", Cond.classLink RX6 62 "java/lang/IllegalStateException", Cond.initialized "java/lang/IllegalStateException", Cond.fieldLink RX6 10 "LedgerKiln" "draft" "LLedgerKiln$Legs;", Cond.methodLink RX6 44 yX6_needAccount, Cond.static yX6_needAccount, Cond.initialized RX6, Cond.code yX6_needAccount cX6_needAccount 1 none, Cond.classLink RX6 304 "java/lang/IndexOutOfBoundsException", Cond.initialized "java/lang/IndexOutOfBoundsException", Cond.methodLink RX6 48 yX6_needAmount, Cond.static yX6_needAmount, Cond.code yX6_needAmount cX6_needAmount 1 none, Cond.methodLink RX6 58 yX3_isFull, Cond.instanceMethod yX3_isFull, Cond.selects RX3 yX3_isFull yX3_isFull, Cond.initialized RX3, Cond.code yX3_isFull cX3_isFull 1 (some .boolean), Cond.fieldLink RX3 18 "LedgerKiln$Legs" "count" "I", Cond.methodLink RX6 67 yX3_add, Cond.instanceMethod yX3_add, Cond.selects RX3 yX3_add yX3_add, Cond.code yX3_add cX3_add 3 (some .int)]
def wsX6_leg_r2 : List Cond := [Cond.fieldLink RX3 9 "LedgerKiln$Legs" "accounts" "[I", Cond.fieldLink RX3 15 "LedgerKiln$Legs" "amounts" "[I"]
def wsX6_leg : List Cond := .code yX6_leg cX6_leg 3 (some .int) :: ((wsX6_leg_r1 ++ wsX6_leg_r2) ++ wsX60 ++ wsX30 ++ (vx_atS RX6 55 "java/lang/IllegalArgumentException" ["java/lang/RuntimeException", "java/lang/Exception"]).filter goodWord ++ (vx_atS RX6 66 "java/lang/IllegalStateException" ["java/lang/RuntimeException", "java/lang/Exception"]).filter goodWord ++ (vx_atS RX6 308 "java/lang/IndexOutOfBoundsException" ["java/lang/RuntimeException", "java/lang/Exception"]).filter goodWord)
def wsX6_wipe : List Cond := .code yX6_wipe cX6_wipe 1 (some .int) :: ([.fieldLink RX6 10 "LedgerKiln" "draft" "LLedgerKiln$Legs;", .methodLink RX6 71 yX3_clear, .instanceMethod yX3_clear, .selects RX3 yX3_clear yX3_clear, .initialized RX3, .code yX3_clear cX3_clear 2 (some .int), .fieldLink RX3 18 "LedgerKiln$Legs" "count" "I"] ++ wsX60 ++ wsX30)
def wsX6_needText : List Cond := .code yX6_needText cX6_needText 1 none :: ([.classLink RX6 51 "java/lang/IllegalArgumentException", .initialized "java/lang/IllegalArgumentException"] ++ (vx_atS RX6 55 "java/lang/IllegalArgumentException" ["java/lang/RuntimeException", "java/lang/Exception"]).filter goodWord)
def wsX6_write_r1 : List Cond := [Cond.classLink RX6 62 "java/lang/IllegalStateException", Cond.initialized "java/lang/IllegalStateException", Cond.fieldLink RX6 10 "LedgerKiln" "draft" "LLedgerKiln$Legs;", Cond.fieldLink RX6 22 "LedgerKiln" "book" "LLedgerKiln$Book;", Cond.fieldLink RX6 40 "LedgerKiln" "today" "I", Cond.methodLink RX6 75 yX6_needText, Cond.static yX6_needText, Cond.initialized RX6, Cond.code yX6_needText cX6_needText 1 none, Cond.classLink RX6 51 "java/lang/IllegalArgumentException", Cond.initialized "java/lang/IllegalArgumentException", Cond.methodLink RX6 78 yX3_isBalanced, Cond.instanceMethod yX3_isBalanced, Cond.selects RX3 yX3_isBalanced yX3_isBalanced, Cond.initialized RX3, Cond.code yX3_isBalanced cX3_isBalanced 3 (some .boolean), Cond.fieldLink RX3 18 "LedgerKiln$Legs" "count" "I", Cond.fieldLink RX3 15 "LedgerKiln$Legs" "amounts" "[I", Cond.methodLink RX6 81 yX0_isFull, Cond.instanceMethod yX0_isFull, Cond.selects RX0 yX0_isFull yX0_isFull, Cond.initialized RX0, Cond.code yX0_isFull cX0_isFull 1 (some .boolean), Cond.fieldLink RX0 47 "LedgerKiln$Book" "count" "I"]
def wsX6_write_r2 : List Cond := [Cond.methodLink RX6 84 yX0_append, Cond.instanceMethod yX0_append, Cond.selects RX0 yX0_append yX0_append, Cond.code yX0_append cX0_append 6 (some .int), Cond.fieldLink RX0 9 "LedgerKiln$Book" "days" "[I", Cond.fieldLink RX0 15 "LedgerKiln$Book" "texts" "[I", Cond.fieldLink RX0 18 "LedgerKiln$Book" "marks" "[I", Cond.fieldLink RX0 21 "LedgerKiln$Book" "legCounts" "[I", Cond.fieldLink RX0 57 "LedgerKiln$Legs" "count" "I", Cond.fieldLink RX0 24 "LedgerKiln$Book" "accounts" "[I", Cond.fieldLink RX0 58 "LedgerKiln$Legs" "accounts" "[I", Cond.fieldLink RX0 27 "LedgerKiln$Book" "reversals" "[I", Cond.fieldLink RX0 40 "LedgerKiln$Book" "written" "LLedgerKiln$Sheet;", Cond.fieldLink RX0 44 "LedgerKiln$Book" "now" "LLedgerKiln$Sheet;", Cond.methodLink RX0 51 yX3_markWith, Cond.instanceMethod yX3_markWith, Cond.selects RX3 yX3_markWith yX3_markWith, Cond.code yX3_markWith cX3_markWith 5 (some .int), Cond.fieldLink RX3 9 "LedgerKiln$Legs" "accounts" "[I", Cond.methodLink RX3 22 yX3_nextMark, Cond.static yX3_nextMark, Cond.code yX3_nextMark cX3_nextMark 2 (some .int), Cond.constant RX3 26 (1000003), Cond.methodLink RX0 59 yX4_fill]
def wsX6_write_r3 : List Cond := [Cond.instanceMethod yX4_fill, Cond.selects RX4 yX4_fill yX4_fill, Cond.initialized RX4, Cond.code yX4_fill cX4_fill 4 none, Cond.fieldLink RX4 9 "LedgerKiln$Sheet" "filled" "[Z", Cond.fieldLink RX4 19 "LedgerKiln$Legs" "count" "I", Cond.fieldLink RX4 15 "LedgerKiln$Sheet" "amounts" "[I", Cond.fieldLink RX4 25 "LedgerKiln$Legs" "amounts" "[I", Cond.methodLink RX6 71 yX3_clear, Cond.instanceMethod yX3_clear, Cond.selects RX3 yX3_clear yX3_clear, Cond.code yX3_clear cX3_clear 2 (some .int)]
def wsX6_write : List Cond := .code yX6_write cX6_write 3 (some .int) :: ((wsX6_write_r1 ++ (wsX6_write_r2 ++ wsX6_write_r3)) ++ wsX60 ++ wsX30 ++ wsX00 ++ wsX40 ++ (vx_atS RX6 66 "java/lang/IllegalStateException" ["java/lang/RuntimeException", "java/lang/Exception"]).filter goodWord ++ (vx_atS RX6 55 "java/lang/IllegalArgumentException" ["java/lang/RuntimeException", "java/lang/Exception"]).filter goodWord)
def wsX6_needPage : List Cond := .code yX6_needPage cX6_needPage 2 none :: ([.classLink RX6 304 "java/lang/IndexOutOfBoundsException", .initialized "java/lang/IndexOutOfBoundsException", .fieldLink RX6 22 "LedgerKiln" "book" "LLedgerKiln$Book;", .fieldLink RX6 233 "LedgerKiln$Book" "count" "I"] ++ wsX60 ++ wsX00 ++ (vx_atS RX6 308 "java/lang/IndexOutOfBoundsException" ["java/lang/RuntimeException", "java/lang/Exception"]).filter goodWord)
def wsX6_reverse_r1 : List Cond := [Cond.classLink RX6 62 "java/lang/IllegalStateException", Cond.initialized "java/lang/IllegalStateException", Cond.fieldLink RX6 22 "LedgerKiln" "book" "LLedgerKiln$Book;", Cond.fieldLink RX6 16 "LedgerKiln" "opposite" "LLedgerKiln$Legs;", Cond.fieldLink RX6 40 "LedgerKiln" "today" "I", Cond.methodLink RX6 88 yX6_needPage, Cond.instanceMethod yX6_needPage, Cond.selects RX6 yX6_needPage yX6_needPage, Cond.initialized RX6, Cond.code yX6_needPage cX6_needPage 2 none, Cond.classLink RX6 304 "java/lang/IndexOutOfBoundsException", Cond.initialized "java/lang/IndexOutOfBoundsException", Cond.fieldLink RX6 233 "LedgerKiln$Book" "count" "I", Cond.methodLink RX6 91 yX0_isReversible, Cond.instanceMethod yX0_isReversible, Cond.selects RX0 yX0_isReversible yX0_isReversible, Cond.initialized RX0, Cond.code yX0_isReversible cX0_isReversible 2 (some .boolean), Cond.fieldLink RX0 44 "LedgerKiln$Book" "now" "LLedgerKiln$Sheet;", Cond.fieldLink RX0 27 "LedgerKiln$Book" "reversals" "[I", Cond.fieldLink RX0 30 "LedgerKiln$Book" "reversing" "[Z", Cond.methodLink RX0 63 yX0_isTrueOn, Cond.instanceMethod yX0_isTrueOn, Cond.selects RX0 yX0_isTrueOn yX0_isTrueOn]
def wsX6_reverse_r2 : List Cond := [Cond.code yX0_isTrueOn cX0_isTrueOn 3 (some .boolean), Cond.fieldLink RX0 40 "LedgerKiln$Book" "written" "LLedgerKiln$Sheet;", Cond.methodLink RX0 88 yX4_isLike, Cond.instanceMethod yX4_isLike, Cond.selects RX4 yX4_isLike yX4_isLike, Cond.initialized RX4, Cond.code yX4_isLike cX4_isLike 4 (some .boolean), Cond.fieldLink RX4 9 "LedgerKiln$Sheet" "filled" "[Z", Cond.methodLink RX4 26 yX4_amountOf, Cond.instanceMethod yX4_amountOf, Cond.selects RX4 yX4_amountOf yX4_amountOf, Cond.code yX4_amountOf cX4_amountOf 3 (some .int), Cond.fieldLink RX4 15 "LedgerKiln$Sheet" "amounts" "[I", Cond.methodLink RX6 81 yX0_isFull, Cond.instanceMethod yX0_isFull, Cond.selects RX0 yX0_isFull yX0_isFull, Cond.code yX0_isFull cX0_isFull 1 (some .boolean), Cond.fieldLink RX0 47 "LedgerKiln$Book" "count" "I", Cond.methodLink RX6 97 yX0_appendReversal, Cond.instanceMethod yX0_appendReversal, Cond.selects RX0 yX0_appendReversal yX0_appendReversal, Cond.code yX0_appendReversal cX0_appendReversal 5 (some .int), Cond.fieldLink RX0 21 "LedgerKiln$Book" "legCounts" "[I", Cond.fieldLink RX0 24 "LedgerKiln$Book" "accounts" "[I"]
def wsX6_reverse_r3 : List Cond := [Cond.fieldLink RX0 15 "LedgerKiln$Book" "texts" "[I", Cond.methodLink RX0 67 yX3_clear, Cond.instanceMethod yX3_clear, Cond.selects RX3 yX3_clear yX3_clear, Cond.initialized RX3, Cond.code yX3_clear cX3_clear 2 (some .int), Cond.fieldLink RX3 18 "LedgerKiln$Legs" "count" "I", Cond.methodLink RX0 71 yX4_amountOf, Cond.methodLink RX0 74 yX3_add, Cond.instanceMethod yX3_add, Cond.selects RX3 yX3_add yX3_add, Cond.code yX3_add cX3_add 3 (some .int), Cond.fieldLink RX3 9 "LedgerKiln$Legs" "accounts" "[I", Cond.fieldLink RX3 15 "LedgerKiln$Legs" "amounts" "[I", Cond.methodLink RX0 77 yX0_append, Cond.instanceMethod yX0_append, Cond.selects RX0 yX0_append yX0_append, Cond.code yX0_append cX0_append 6 (some .int), Cond.fieldLink RX0 9 "LedgerKiln$Book" "days" "[I", Cond.fieldLink RX0 18 "LedgerKiln$Book" "marks" "[I", Cond.fieldLink RX0 57 "LedgerKiln$Legs" "count" "I", Cond.fieldLink RX0 58 "LedgerKiln$Legs" "accounts" "[I", Cond.methodLink RX0 51 yX3_markWith, Cond.instanceMethod yX3_markWith]
def wsX6_reverse_r4 : List Cond := [Cond.selects RX3 yX3_markWith yX3_markWith, Cond.code yX3_markWith cX3_markWith 5 (some .int), Cond.methodLink RX3 22 yX3_nextMark, Cond.static yX3_nextMark, Cond.code yX3_nextMark cX3_nextMark 2 (some .int), Cond.constant RX3 26 (1000003), Cond.methodLink RX0 59 yX4_fill, Cond.instanceMethod yX4_fill, Cond.selects RX4 yX4_fill yX4_fill, Cond.code yX4_fill cX4_fill 4 none, Cond.fieldLink RX4 19 "LedgerKiln$Legs" "count" "I", Cond.fieldLink RX4 25 "LedgerKiln$Legs" "amounts" "[I"]
def wsX6_reverse : List Cond := .code yX6_reverse cX6_reverse 2 (some .int) :: ((wsX6_reverse_r1 ++ (wsX6_reverse_r2 ++ (wsX6_reverse_r3 ++ wsX6_reverse_r4))) ++ wsX60 ++ wsX00 ++ wsX40 ++ wsX30 ++ (vx_atS RX6 66 "java/lang/IllegalStateException" ["java/lang/RuntimeException", "java/lang/Exception"]).filter goodWord ++ (vx_atS RX6 308 "java/lang/IndexOutOfBoundsException" ["java/lang/RuntimeException", "java/lang/Exception"]).filter goodWord)
def wsX6_pass : List Cond := .code yX6_pass cX6_pass 2 (some .int) :: ([.classLink RX6 51 "java/lang/IllegalArgumentException", .initialized "java/lang/IllegalArgumentException", .classLink RX6 62 "java/lang/IllegalStateException", .initialized "java/lang/IllegalStateException", .fieldLink RX6 40 "LedgerKiln" "today" "I"] ++ wsX60 ++ (vx_atS RX6 55 "java/lang/IllegalArgumentException" ["java/lang/RuntimeException", "java/lang/Exception"]).filter goodWord ++ (vx_atS RX6 66 "java/lang/IllegalStateException" ["java/lang/RuntimeException", "java/lang/Exception"]).filter goodWord)
def wsX6_burn : List Cond := .code yX6_burn cX6_burn 5 (some .int) :: ([.classLink RX6 51 "java/lang/IllegalArgumentException", .initialized "java/lang/IllegalArgumentException", .fieldLink RX6 22 "LedgerKiln" "book" "LLedgerKiln$Book;", .fieldLink RX6 107 "LedgerKiln$Book" "now" "LLedgerKiln$Sheet;", .methodLink RX6 88 yX6_needPage, .instanceMethod yX6_needPage, .selects RX6 yX6_needPage yX6_needPage, .initialized RX6, .code yX6_needPage cX6_needPage 2 none, .classLink RX6 304 "java/lang/IndexOutOfBoundsException", .initialized "java/lang/IndexOutOfBoundsException", .fieldLink RX6 233 "LedgerKiln$Book" "count" "I", .methodLink RX6 111 yX4_blank, .instanceMethod yX4_blank, .selects RX4 yX4_blank yX4_blank, .initialized RX4, .code yX4_blank cX4_blank 4 (some .boolean), .fieldLink RX4 9 "LedgerKiln$Sheet" "filled" "[Z", .fieldLink RX4 15 "LedgerKiln$Sheet" "amounts" "[I"] ++ wsX60 ++ wsX00 ++ wsX40 ++ (vx_atS RX6 55 "java/lang/IllegalArgumentException" ["java/lang/RuntimeException", "java/lang/Exception"]).filter goodWord ++ (vx_atS RX6 308 "java/lang/IndexOutOfBoundsException" ["java/lang/RuntimeException", "java/lang/Exception"]).filter goodWord)
def wsX6_alter_r1 : List Cond := [Cond.classLink RX6 51 "java/lang/IllegalArgumentException", Cond.initialized "java/lang/IllegalArgumentException", Cond.classLink RX6 62 "java/lang/IllegalStateException", Cond.initialized "java/lang/IllegalStateException", Cond.fieldLink RX6 22 "LedgerKiln" "book" "LLedgerKiln$Book;", Cond.fieldLink RX6 107 "LedgerKiln$Book" "now" "LLedgerKiln$Sheet;", Cond.fieldLink RX6 121 "LedgerKiln$Book" "legCounts" "[I", Cond.methodLink RX6 88 yX6_needPage, Cond.instanceMethod yX6_needPage, Cond.selects RX6 yX6_needPage yX6_needPage, Cond.initialized RX6, Cond.code yX6_needPage cX6_needPage 2 none, Cond.classLink RX6 304 "java/lang/IndexOutOfBoundsException", Cond.initialized "java/lang/IndexOutOfBoundsException", Cond.fieldLink RX6 233 "LedgerKiln$Book" "count" "I", Cond.methodLink RX6 48 yX6_needAmount, Cond.static yX6_needAmount, Cond.code yX6_needAmount cX6_needAmount 1 none, Cond.methodLink RX6 118 yX4_isFilled, Cond.instanceMethod yX4_isFilled, Cond.selects RX4 yX4_isFilled yX4_isFilled, Cond.initialized RX4, Cond.code yX4_isFilled cX4_isFilled 2 (some .boolean), Cond.fieldLink RX4 9 "LedgerKiln$Sheet" "filled" "[Z"]
def wsX6_alter_r2 : List Cond := [Cond.methodLink RX6 127 yX4_replace, Cond.instanceMethod yX4_replace, Cond.selects RX4 yX4_replace yX4_replace, Cond.code yX4_replace cX4_replace 5 (some .int), Cond.fieldLink RX4 15 "LedgerKiln$Sheet" "amounts" "[I"]
def wsX6_alter : List Cond := .code yX6_alter cX6_alter 4 (some .int) :: ((wsX6_alter_r1 ++ wsX6_alter_r2) ++ wsX60 ++ wsX00 ++ wsX40 ++ (vx_atS RX6 55 "java/lang/IllegalArgumentException" ["java/lang/RuntimeException", "java/lang/Exception"]).filter goodWord ++ (vx_atS RX6 66 "java/lang/IllegalStateException" ["java/lang/RuntimeException", "java/lang/Exception"]).filter goodWord ++ (vx_atS RX6 308 "java/lang/IndexOutOfBoundsException" ["java/lang/RuntimeException", "java/lang/Exception"]).filter goodWord)
def wsX6_needRoomForCopy_r1 : List Cond := [Cond.classLink RX6 62 "java/lang/IllegalStateException", Cond.initialized "java/lang/IllegalStateException", Cond.fieldLink RX6 29 "LedgerKiln" "vault" "LLedgerKiln$Vault;", Cond.fieldLink RX6 22 "LedgerKiln" "book" "LLedgerKiln$Book;", Cond.methodLink RX6 329 yX5_isFull, Cond.instanceMethod yX5_isFull, Cond.selects RX5 yX5_isFull yX5_isFull, Cond.initialized RX5, Cond.code yX5_isFull cX5_isFull 1 (some .boolean), Cond.fieldLink RX5 17 "LedgerKiln$Vault" "made" "I", Cond.methodLink RX6 294 yX0_countBurnt, Cond.instanceMethod yX0_countBurnt, Cond.selects RX0 yX0_countBurnt yX0_countBurnt, Cond.initialized RX0, Cond.code yX0_countBurnt cX0_countBurnt 3 (some .int), Cond.fieldLink RX0 47 "LedgerKiln$Book" "count" "I", Cond.methodLink RX0 91 yX0_stateOf, Cond.instanceMethod yX0_stateOf, Cond.selects RX0 yX0_stateOf yX0_stateOf, Cond.code yX0_stateOf cX0_stateOf 2 (some .int), Cond.fieldLink RX0 34 "LedgerKiln$Book" "struck" "[Z", Cond.fieldLink RX0 44 "LedgerKiln$Book" "now" "LLedgerKiln$Sheet;", Cond.methodLink RX0 85 yX4_isFilled, Cond.instanceMethod yX4_isFilled]
def wsX6_needRoomForCopy_r2 : List Cond := [Cond.selects RX4 yX4_isFilled yX4_isFilled, Cond.initialized RX4, Cond.code yX4_isFilled cX4_isFilled 2 (some .boolean), Cond.fieldLink RX4 9 "LedgerKiln$Sheet" "filled" "[Z"]
def wsX6_needRoomForCopy : List Cond := .code yX6_needRoomForCopy cX6_needRoomForCopy 1 none :: ((wsX6_needRoomForCopy_r1 ++ wsX6_needRoomForCopy_r2) ++ wsX60 ++ wsX50 ++ wsX00 ++ wsX40 ++ (vx_atS RX6 66 "java/lang/IllegalStateException" ["java/lang/RuntimeException", "java/lang/Exception"]).filter goodWord)
def wsX6_copy_r1 : List Cond := [Cond.fieldLink RX6 29 "LedgerKiln" "vault" "LLedgerKiln$Vault;", Cond.fieldLink RX6 22 "LedgerKiln" "book" "LLedgerKiln$Book;", Cond.methodLink RX6 131 yX6_needRoomForCopy, Cond.instanceMethod yX6_needRoomForCopy, Cond.selects RX6 yX6_needRoomForCopy yX6_needRoomForCopy, Cond.initialized RX6, Cond.code yX6_needRoomForCopy cX6_needRoomForCopy 1 none, Cond.classLink RX6 62 "java/lang/IllegalStateException", Cond.initialized "java/lang/IllegalStateException", Cond.methodLink RX6 329 yX5_isFull, Cond.instanceMethod yX5_isFull, Cond.selects RX5 yX5_isFull yX5_isFull, Cond.initialized RX5, Cond.code yX5_isFull cX5_isFull 1 (some .boolean), Cond.fieldLink RX5 17 "LedgerKiln$Vault" "made" "I", Cond.methodLink RX6 294 yX0_countBurnt, Cond.instanceMethod yX0_countBurnt, Cond.selects RX0 yX0_countBurnt yX0_countBurnt, Cond.initialized RX0, Cond.code yX0_countBurnt cX0_countBurnt 3 (some .int), Cond.fieldLink RX0 47 "LedgerKiln$Book" "count" "I", Cond.methodLink RX0 91 yX0_stateOf, Cond.instanceMethod yX0_stateOf, Cond.selects RX0 yX0_stateOf yX0_stateOf]
def wsX6_copy_r2 : List Cond := [Cond.code yX0_stateOf cX0_stateOf 2 (some .int), Cond.fieldLink RX0 34 "LedgerKiln$Book" "struck" "[Z", Cond.fieldLink RX0 44 "LedgerKiln$Book" "now" "LLedgerKiln$Sheet;", Cond.methodLink RX0 85 yX4_isFilled, Cond.instanceMethod yX4_isFilled, Cond.selects RX4 yX4_isFilled yX4_isFilled, Cond.initialized RX4, Cond.code yX4_isFilled cX4_isFilled 2 (some .boolean), Cond.fieldLink RX4 9 "LedgerKiln$Sheet" "filled" "[Z", Cond.methodLink RX6 134 yX5_make, Cond.instanceMethod yX5_make, Cond.selects RX5 yX5_make yX5_make, Cond.code yX5_make cX5_make 5 (some .int), Cond.classLink RX5 9 RX1, Cond.instantiable RX1 5, Cond.initialized RX1, Cond.fieldLink RX5 21 "LedgerKiln$Copy" "end" "I", Cond.fieldLink RX5 24 "LedgerKiln$Book" "count" "I", Cond.fieldLink RX5 32 "LedgerKiln$Copy" "first" "I", Cond.fieldLink RX5 35 "LedgerKiln$Copy" "sheet" "LLedgerKiln$Sheet;", Cond.fieldLink RX5 39 "LedgerKiln$Book" "now" "LLedgerKiln$Sheet;", Cond.fieldLink RX5 11 "LedgerKiln$Vault" "copies" "[LLedgerKiln$Copy;", Cond.methodLink RX5 29 yX1_init, Cond.instanceMethod yX1_init]
def wsX6_copy_r3 : List Cond := [Cond.code yX1_init cX1_init 4 none, Cond.methodLink RX1 1 objectInit, Cond.instanceMethod objectInit, Cond.code objectInit ⟨#[0xb1]⟩ 1 none, Cond.classLink RX1 7 RX4, Cond.instantiable RX4 2, Cond.fieldLink RX1 10 "LedgerKiln$Copy" "sheet" "LLedgerKiln$Sheet;", Cond.fieldLink RX1 16 "LedgerKiln$Copy" "inVault" "Z", Cond.fieldLink RX1 20 "LedgerKiln$Copy" "base" "LLedgerKiln$Copy;", Cond.fieldLink RX1 24 "LedgerKiln$Copy" "first" "I", Cond.fieldLink RX1 28 "LedgerKiln$Copy" "end" "I", Cond.instanceMethod yX4_init, Cond.code yX4_init cX4_init 1 none, Cond.methodLink RX4 3 objectInit, Cond.arrayClass .boolean, Cond.arrayClass .int, Cond.fieldLink RX4 15 "LedgerKiln$Sheet" "amounts" "[I", Cond.methodLink RX5 42 yX4_take, Cond.instanceMethod yX4_take, Cond.selects RX4 yX4_take yX4_take, Cond.code yX4_take cX4_take 4 none]
def wsX6_copy : List Cond := .code yX6_copy cX6_copy 1 (some .int) :: ((wsX6_copy_r1 ++ (wsX6_copy_r2 ++ wsX6_copy_r3)) ++ wsX60 ++ wsX50 ++ wsX00 ++ wsX40 ++ wsX10 ++ (vx_atS RX6 66 "java/lang/IllegalStateException" ["java/lang/RuntimeException", "java/lang/Exception"]).filter goodWord)
def wsX6_needCopy : List Cond := .code yX6_needCopy cX6_needCopy 3 (some (.object "LedgerKiln$Copy")) :: ([.classLink RX6 304 "java/lang/IndexOutOfBoundsException", .initialized "java/lang/IndexOutOfBoundsException", .fieldLink RX6 29 "LedgerKiln" "vault" "LLedgerKiln$Vault;", .methodLink RX6 316 yX5_find, .instanceMethod yX5_find, .selects RX5 yX5_find yX5_find, .initialized RX5, .code yX5_find cX5_find 2 (some (.object "LedgerKiln$Copy")), .fieldLink RX5 17 "LedgerKiln$Vault" "made" "I", .fieldLink RX5 11 "LedgerKiln$Vault" "copies" "[LLedgerKiln$Copy;"] ++ wsX60 ++ wsX50 ++ (vx_atS RX6 308 "java/lang/IndexOutOfBoundsException" ["java/lang/RuntimeException", "java/lang/Exception"]).filter goodWord)
def wsX6_copyFrom_r1 : List Cond := [Cond.fieldLink RX6 29 "LedgerKiln" "vault" "LLedgerKiln$Vault;", Cond.fieldLink RX6 22 "LedgerKiln" "book" "LLedgerKiln$Book;", Cond.methodLink RX6 138 yX6_needCopy, Cond.instanceMethod yX6_needCopy, Cond.selects RX6 yX6_needCopy yX6_needCopy, Cond.initialized RX6, Cond.code yX6_needCopy cX6_needCopy 3 (some (.object "LedgerKiln$Copy")), Cond.classLink RX6 304 "java/lang/IndexOutOfBoundsException", Cond.initialized "java/lang/IndexOutOfBoundsException", Cond.methodLink RX6 316 yX5_find, Cond.instanceMethod yX5_find, Cond.selects RX5 yX5_find yX5_find, Cond.initialized RX5, Cond.code yX5_find cX5_find 2 (some (.object "LedgerKiln$Copy")), Cond.fieldLink RX5 17 "LedgerKiln$Vault" "made" "I", Cond.fieldLink RX5 11 "LedgerKiln$Vault" "copies" "[LLedgerKiln$Copy;", Cond.methodLink RX6 131 yX6_needRoomForCopy, Cond.instanceMethod yX6_needRoomForCopy, Cond.selects RX6 yX6_needRoomForCopy yX6_needRoomForCopy, Cond.code yX6_needRoomForCopy cX6_needRoomForCopy 1 none, Cond.classLink RX6 62 "java/lang/IllegalStateException", Cond.initialized "java/lang/IllegalStateException", Cond.methodLink RX6 329 yX5_isFull, Cond.instanceMethod yX5_isFull]
def wsX6_copyFrom_r2 : List Cond := [Cond.selects RX5 yX5_isFull yX5_isFull, Cond.code yX5_isFull cX5_isFull 1 (some .boolean), Cond.methodLink RX6 294 yX0_countBurnt, Cond.instanceMethod yX0_countBurnt, Cond.selects RX0 yX0_countBurnt yX0_countBurnt, Cond.initialized RX0, Cond.code yX0_countBurnt cX0_countBurnt 3 (some .int), Cond.fieldLink RX0 47 "LedgerKiln$Book" "count" "I", Cond.methodLink RX0 91 yX0_stateOf, Cond.instanceMethod yX0_stateOf, Cond.selects RX0 yX0_stateOf yX0_stateOf, Cond.code yX0_stateOf cX0_stateOf 2 (some .int), Cond.fieldLink RX0 34 "LedgerKiln$Book" "struck" "[Z", Cond.fieldLink RX0 44 "LedgerKiln$Book" "now" "LLedgerKiln$Sheet;", Cond.methodLink RX0 85 yX4_isFilled, Cond.instanceMethod yX4_isFilled, Cond.selects RX4 yX4_isFilled yX4_isFilled, Cond.initialized RX4, Cond.code yX4_isFilled cX4_isFilled 2 (some .boolean), Cond.fieldLink RX4 9 "LedgerKiln$Sheet" "filled" "[Z", Cond.methodLink RX6 134 yX5_make, Cond.instanceMethod yX5_make, Cond.selects RX5 yX5_make yX5_make, Cond.code yX5_make cX5_make 5 (some .int)]
def wsX6_copyFrom_r3 : List Cond := [Cond.classLink RX5 9 RX1, Cond.instantiable RX1 5, Cond.initialized RX1, Cond.fieldLink RX5 21 "LedgerKiln$Copy" "end" "I", Cond.fieldLink RX5 24 "LedgerKiln$Book" "count" "I", Cond.fieldLink RX5 32 "LedgerKiln$Copy" "first" "I", Cond.fieldLink RX5 35 "LedgerKiln$Copy" "sheet" "LLedgerKiln$Sheet;", Cond.fieldLink RX5 39 "LedgerKiln$Book" "now" "LLedgerKiln$Sheet;", Cond.methodLink RX5 29 yX1_init, Cond.instanceMethod yX1_init, Cond.code yX1_init cX1_init 4 none, Cond.methodLink RX1 1 objectInit, Cond.instanceMethod objectInit, Cond.code objectInit ⟨#[0xb1]⟩ 1 none, Cond.classLink RX1 7 RX4, Cond.instantiable RX4 2, Cond.fieldLink RX1 10 "LedgerKiln$Copy" "sheet" "LLedgerKiln$Sheet;", Cond.fieldLink RX1 16 "LedgerKiln$Copy" "inVault" "Z", Cond.fieldLink RX1 20 "LedgerKiln$Copy" "base" "LLedgerKiln$Copy;", Cond.fieldLink RX1 24 "LedgerKiln$Copy" "first" "I", Cond.fieldLink RX1 28 "LedgerKiln$Copy" "end" "I", Cond.instanceMethod yX4_init, Cond.code yX4_init cX4_init 1 none, Cond.methodLink RX4 3 objectInit]
def wsX6_copyFrom_r4 : List Cond := [Cond.arrayClass .boolean, Cond.arrayClass .int, Cond.fieldLink RX4 15 "LedgerKiln$Sheet" "amounts" "[I", Cond.methodLink RX5 42 yX4_take, Cond.instanceMethod yX4_take, Cond.selects RX4 yX4_take yX4_take, Cond.code yX4_take cX4_take 4 none]
def wsX6_copyFrom : List Cond := .code yX6_copyFrom cX6_copyFrom 3 (some .int) :: ((wsX6_copyFrom_r1 ++ (wsX6_copyFrom_r2 ++ (wsX6_copyFrom_r3 ++ wsX6_copyFrom_r4))) ++ wsX60 ++ wsX50 ++ wsX00 ++ wsX40 ++ wsX10 ++ (vx_atS RX6 308 "java/lang/IndexOutOfBoundsException" ["java/lang/RuntimeException", "java/lang/Exception"]).filter goodWord ++ (vx_atS RX6 66 "java/lang/IllegalStateException" ["java/lang/RuntimeException", "java/lang/Exception"]).filter goodWord)
def wsX6_carry_r1 : List Cond := [Cond.fieldLink RX6 142 "LedgerKiln$Copy" "inVault" "Z", Cond.fieldLink RX6 22 "LedgerKiln" "book" "LLedgerKiln$Book;", Cond.methodLink RX6 138 yX6_needCopy, Cond.instanceMethod yX6_needCopy, Cond.selects RX6 yX6_needCopy yX6_needCopy, Cond.initialized RX6, Cond.code yX6_needCopy cX6_needCopy 3 (some (.object "LedgerKiln$Copy")), Cond.classLink RX6 304 "java/lang/IndexOutOfBoundsException", Cond.initialized "java/lang/IndexOutOfBoundsException", Cond.fieldLink RX6 29 "LedgerKiln" "vault" "LLedgerKiln$Vault;", Cond.methodLink RX6 316 yX5_find, Cond.instanceMethod yX5_find, Cond.selects RX5 yX5_find yX5_find, Cond.initialized RX5, Cond.code yX5_find cX5_find 2 (some (.object "LedgerKiln$Copy")), Cond.fieldLink RX5 17 "LedgerKiln$Vault" "made" "I", Cond.fieldLink RX5 11 "LedgerKiln$Vault" "copies" "[LLedgerKiln$Copy;", Cond.methodLink RX6 148 yX1_blankStruck, Cond.instanceMethod yX1_blankStruck, Cond.selects RX1 yX1_blankStruck yX1_blankStruck, Cond.initialized RX1, Cond.code yX1_blankStruck cX1_blankStruck 4 (some .int), Cond.fieldLink RX1 24 "LedgerKiln$Copy" "first" "I", Cond.fieldLink RX1 28 "LedgerKiln$Copy" "end" "I"]
def wsX6_carry_r2 : List Cond := [Cond.fieldLink RX1 31 "LedgerKiln$Book" "struck" "[Z", Cond.fieldLink RX1 10 "LedgerKiln$Copy" "sheet" "LLedgerKiln$Sheet;", Cond.methodLink RX1 37 yX4_blank, Cond.instanceMethod yX4_blank, Cond.selects RX4 yX4_blank yX4_blank, Cond.initialized RX4, Cond.code yX4_blank cX4_blank 4 (some .boolean), Cond.fieldLink RX4 9 "LedgerKiln$Sheet" "filled" "[Z", Cond.fieldLink RX4 15 "LedgerKiln$Sheet" "amounts" "[I"]
def wsX6_carry : List Cond := .code yX6_carry cX6_carry 4 (some .int) :: ((wsX6_carry_r1 ++ wsX6_carry_r2) ++ wsX10 ++ wsX60 ++ wsX50 ++ wsX00 ++ wsX40 ++ (vx_atS RX6 308 "java/lang/IndexOutOfBoundsException" ["java/lang/RuntimeException", "java/lang/Exception"]).filter goodWord)
def wsX6_needPageIn : List Cond := .code yX6_needPageIn cX6_needPageIn 2 none :: ([.classLink RX6 304 "java/lang/IndexOutOfBoundsException", .initialized "java/lang/IndexOutOfBoundsException", .fieldLink RX6 288 "LedgerKiln$Copy" "first" "I", .fieldLink RX6 285 "LedgerKiln$Copy" "end" "I"] ++ wsX10 ++ (vx_atS RX6 308 "java/lang/IndexOutOfBoundsException" ["java/lang/RuntimeException", "java/lang/Exception"]).filter goodWord)
def wsX6_rot_r1 : List Cond := [Cond.fieldLink RX6 156 "LedgerKiln$Copy" "sheet" "LLedgerKiln$Sheet;", Cond.methodLink RX6 138 yX6_needCopy, Cond.instanceMethod yX6_needCopy, Cond.selects RX6 yX6_needCopy yX6_needCopy, Cond.initialized RX6, Cond.code yX6_needCopy cX6_needCopy 3 (some (.object "LedgerKiln$Copy")), Cond.classLink RX6 304 "java/lang/IndexOutOfBoundsException", Cond.initialized "java/lang/IndexOutOfBoundsException", Cond.fieldLink RX6 29 "LedgerKiln" "vault" "LLedgerKiln$Vault;", Cond.methodLink RX6 316 yX5_find, Cond.instanceMethod yX5_find, Cond.selects RX5 yX5_find yX5_find, Cond.initialized RX5, Cond.code yX5_find cX5_find 2 (some (.object "LedgerKiln$Copy")), Cond.fieldLink RX5 17 "LedgerKiln$Vault" "made" "I", Cond.fieldLink RX5 11 "LedgerKiln$Vault" "copies" "[LLedgerKiln$Copy;", Cond.methodLink RX6 152 yX6_needPageIn, Cond.static yX6_needPageIn, Cond.code yX6_needPageIn cX6_needPageIn 2 none, Cond.fieldLink RX6 288 "LedgerKiln$Copy" "first" "I", Cond.fieldLink RX6 285 "LedgerKiln$Copy" "end" "I", Cond.methodLink RX6 111 yX4_blank, Cond.instanceMethod yX4_blank, Cond.selects RX4 yX4_blank yX4_blank]
def wsX6_rot_r2 : List Cond := [Cond.initialized RX4, Cond.code yX4_blank cX4_blank 4 (some .boolean), Cond.fieldLink RX4 9 "LedgerKiln$Sheet" "filled" "[Z", Cond.fieldLink RX4 15 "LedgerKiln$Sheet" "amounts" "[I"]
def wsX6_rot : List Cond := .code yX6_rot cX6_rot 4 (some .boolean) :: ((wsX6_rot_r1 ++ wsX6_rot_r2) ++ wsX10 ++ wsX60 ++ wsX50 ++ wsX40 ++ (vx_atS RX6 308 "java/lang/IndexOutOfBoundsException" ["java/lang/RuntimeException", "java/lang/Exception"]).filter goodWord)
def wsX6_throwAway_r1 : List Cond := [Cond.classLink RX6 62 "java/lang/IllegalStateException", Cond.initialized "java/lang/IllegalStateException", Cond.fieldLink RX6 29 "LedgerKiln" "vault" "LLedgerKiln$Vault;", Cond.fieldLink RX6 36 "LedgerKiln" "court" "LLedgerKiln$Court;", Cond.fieldLink RX6 22 "LedgerKiln" "book" "LLedgerKiln$Book;", Cond.methodLink RX6 138 yX6_needCopy, Cond.instanceMethod yX6_needCopy, Cond.selects RX6 yX6_needCopy yX6_needCopy, Cond.initialized RX6, Cond.code yX6_needCopy cX6_needCopy 3 (some (.object "LedgerKiln$Copy")), Cond.classLink RX6 304 "java/lang/IndexOutOfBoundsException", Cond.initialized "java/lang/IndexOutOfBoundsException", Cond.methodLink RX6 316 yX5_find, Cond.instanceMethod yX5_find, Cond.selects RX5 yX5_find yX5_find, Cond.initialized RX5, Cond.code yX5_find cX5_find 2 (some (.object "LedgerKiln$Copy")), Cond.fieldLink RX5 17 "LedgerKiln$Vault" "made" "I", Cond.fieldLink RX5 11 "LedgerKiln$Vault" "copies" "[LLedgerKiln$Copy;", Cond.methodLink RX6 159 yX5_isBase, Cond.instanceMethod yX5_isBase, Cond.selects RX5 yX5_isBase yX5_isBase, Cond.code yX5_isBase cX5_isBase 4 (some .boolean), Cond.fieldLink RX5 48 "LedgerKiln$Copy" "base" "LLedgerKiln$Copy;"]
def wsX6_throwAway_r2 : List Cond := [Cond.methodLink RX6 163 yX2_holdsAnyIn, Cond.instanceMethod yX2_holdsAnyIn, Cond.selects RX2 yX2_holdsAnyIn yX2_holdsAnyIn, Cond.initialized RX2, Cond.code yX2_holdsAnyIn cX2_holdsAnyIn 4 (some .boolean), Cond.fieldLink RX2 51 "LedgerKiln$Copy" "first" "I", Cond.fieldLink RX2 56 "LedgerKiln$Copy" "end" "I", Cond.fieldLink RX2 59 "LedgerKiln$Copy" "sheet" "LLedgerKiln$Sheet;", Cond.methodLink RX2 63 yX4_isFilled, Cond.instanceMethod yX4_isFilled, Cond.selects RX4 yX4_isFilled yX4_isFilled, Cond.initialized RX4, Cond.code yX4_isFilled cX4_isFilled 2 (some .boolean), Cond.fieldLink RX4 9 "LedgerKiln$Sheet" "filled" "[Z", Cond.methodLink RX2 47 yX2_holdersOf, Cond.instanceMethod yX2_holdersOf, Cond.selects RX2 yX2_holdersOf yX2_holdersOf, Cond.code yX2_holdersOf cX2_holdersOf 7 (some .int), Cond.fieldLink RX2 35 "LedgerKiln$Book" "days" "[I", Cond.fieldLink RX2 32 "LedgerKiln$Court" "holds" "I", Cond.fieldLink RX2 26 "LedgerKiln$Court" "holdFroms" "[I", Cond.fieldLink RX2 29 "LedgerKiln$Court" "holdTos" "[I", Cond.fieldLink RX2 9 "LedgerKiln$Court" "running" "[Z", Cond.fieldLink RX2 19 "LedgerKiln$Court" "holdCases" "[I"]
def wsX6_throwAway_r3 : List Cond := [Cond.fieldLink RX2 23 "LedgerKiln$Court" "holdAccounts" "[I", Cond.methodLink RX2 40 yX0_hasLegFor, Cond.instanceMethod yX0_hasLegFor, Cond.selects RX0 yX0_hasLegFor yX0_hasLegFor, Cond.initialized RX0, Cond.code yX0_hasLegFor cX0_hasLegFor 4 (some .boolean), Cond.fieldLink RX0 21 "LedgerKiln$Book" "legCounts" "[I", Cond.fieldLink RX0 24 "LedgerKiln$Book" "accounts" "[I", Cond.methodLink RX6 169 yX5_remove, Cond.instanceMethod yX5_remove, Cond.selects RX5 yX5_remove yX5_remove, Cond.code yX5_remove cX5_remove 2 none, Cond.methodLink RX6 172 yX5_countThere, Cond.instanceMethod yX5_countThere, Cond.selects RX5 yX5_countThere yX5_countThere, Cond.code yX5_countThere cX5_countThere 3 (some .int)]
def wsX6_throwAway : List Cond := .code yX6_throwAway cX6_throwAway 3 (some .int) :: ((wsX6_throwAway_r1 ++ (wsX6_throwAway_r2 ++ wsX6_throwAway_r3)) ++ wsX60 ++ wsX50 ++ wsX10 ++ wsX40 ++ wsX00 ++ wsX20 ++ (vx_atS RX6 66 "java/lang/IllegalStateException" ["java/lang/RuntimeException", "java/lang/Exception"]).filter goodWord ++ (vx_atS RX6 308 "java/lang/IndexOutOfBoundsException" ["java/lang/RuntimeException", "java/lang/Exception"]).filter goodWord)
def wsX6_restore_r1 : List Cond := [Cond.classLink RX6 62 "java/lang/IllegalStateException", Cond.initialized "java/lang/IllegalStateException", Cond.fieldLink RX6 22 "LedgerKiln" "book" "LLedgerKiln$Book;", Cond.fieldLink RX6 183 "LedgerKiln$Copy" "base" "LLedgerKiln$Copy;", Cond.methodLink RX6 138 yX6_needCopy, Cond.instanceMethod yX6_needCopy, Cond.selects RX6 yX6_needCopy yX6_needCopy, Cond.initialized RX6, Cond.code yX6_needCopy cX6_needCopy 3 (some (.object "LedgerKiln$Copy")), Cond.classLink RX6 304 "java/lang/IndexOutOfBoundsException", Cond.initialized "java/lang/IndexOutOfBoundsException", Cond.fieldLink RX6 29 "LedgerKiln" "vault" "LLedgerKiln$Vault;", Cond.methodLink RX6 316 yX5_find, Cond.instanceMethod yX5_find, Cond.selects RX5 yX5_find yX5_find, Cond.initialized RX5, Cond.code yX5_find cX5_find 2 (some (.object "LedgerKiln$Copy")), Cond.fieldLink RX5 17 "LedgerKiln$Vault" "made" "I", Cond.fieldLink RX5 11 "LedgerKiln$Vault" "copies" "[LLedgerKiln$Copy;", Cond.methodLink RX6 175 yX1_isChainInVault, Cond.instanceMethod yX1_isChainInVault, Cond.selects RX1 yX1_isChainInVault yX1_isChainInVault, Cond.initialized RX1, Cond.code yX1_isChainInVault cX1_isChainInVault 2 (some .boolean)]
def wsX6_restore_r2 : List Cond := [Cond.fieldLink RX1 16 "LedgerKiln$Copy" "inVault" "Z", Cond.fieldLink RX1 20 "LedgerKiln$Copy" "base" "LLedgerKiln$Copy;", Cond.methodLink RX6 180 yX1_giveBack, Cond.instanceMethod yX1_giveBack, Cond.selects RX1 yX1_giveBack yX1_giveBack, Cond.code yX1_giveBack cX1_giveBack 5 (some .int), Cond.fieldLink RX1 24 "LedgerKiln$Copy" "first" "I", Cond.fieldLink RX1 28 "LedgerKiln$Copy" "end" "I", Cond.fieldLink RX1 31 "LedgerKiln$Book" "struck" "[Z", Cond.fieldLink RX1 41 "LedgerKiln$Book" "now" "LLedgerKiln$Sheet;", Cond.fieldLink RX1 10 "LedgerKiln$Copy" "sheet" "LLedgerKiln$Sheet;", Cond.methodLink RX1 44 yX0_isTrueOn, Cond.instanceMethod yX0_isTrueOn, Cond.selects RX0 yX0_isTrueOn yX0_isTrueOn, Cond.initialized RX0, Cond.code yX0_isTrueOn cX0_isTrueOn 3 (some .boolean), Cond.fieldLink RX0 40 "LedgerKiln$Book" "written" "LLedgerKiln$Sheet;", Cond.methodLink RX0 88 yX4_isLike, Cond.instanceMethod yX4_isLike, Cond.selects RX4 yX4_isLike yX4_isLike, Cond.initialized RX4, Cond.code yX4_isLike cX4_isLike 4 (some .boolean), Cond.fieldLink RX4 9 "LedgerKiln$Sheet" "filled" "[Z", Cond.methodLink RX4 26 yX4_amountOf]
def wsX6_restore_r3 : List Cond := [Cond.instanceMethod yX4_amountOf, Cond.selects RX4 yX4_amountOf yX4_amountOf, Cond.code yX4_amountOf cX4_amountOf 3 (some .int), Cond.fieldLink RX4 15 "LedgerKiln$Sheet" "amounts" "[I", Cond.methodLink RX1 48 yX4_take, Cond.instanceMethod yX4_take, Cond.selects RX4 yX4_take yX4_take, Cond.code yX4_take cX4_take 4 none]
def wsX6_restore : List Cond := .code yX6_restore cX6_restore 5 (some .int) :: ((wsX6_restore_r1 ++ (wsX6_restore_r2 ++ wsX6_restore_r3)) ++ wsX60 ++ wsX10 ++ wsX50 ++ wsX00 ++ wsX40 ++ (vx_atS RX6 66 "java/lang/IllegalStateException" ["java/lang/RuntimeException", "java/lang/Exception"]).filter goodWord ++ (vx_atS RX6 308 "java/lang/IndexOutOfBoundsException" ["java/lang/RuntimeException", "java/lang/Exception"]).filter goodWord)
def wsX6_open : List Cond := .code yX6_open cX6_open 1 (some .int) :: ([.classLink RX6 62 "java/lang/IllegalStateException", .initialized "java/lang/IllegalStateException", .fieldLink RX6 36 "LedgerKiln" "court" "LLedgerKiln$Court;", .methodLink RX6 187 yX2_isFull, .instanceMethod yX2_isFull, .selects RX2 yX2_isFull yX2_isFull, .initialized RX2, .code yX2_isFull cX2_isFull 1 (some .boolean), .fieldLink RX2 15 "LedgerKiln$Court" "opened" "I", .methodLink RX6 190 yX2_openNext, .instanceMethod yX2_openNext, .selects RX2 yX2_openNext yX2_openNext, .code yX2_openNext cX2_openNext 1 (some .int), .fieldLink RX2 9 "LedgerKiln$Court" "running" "[Z"] ++ wsX60 ++ wsX20 ++ (vx_atS RX6 66 "java/lang/IllegalStateException" ["java/lang/RuntimeException", "java/lang/Exception"]).filter goodWord)
def wsX6_needCase : List Cond := .code yX6_needCase cX6_needCase 2 none :: ([.classLink RX6 304 "java/lang/IndexOutOfBoundsException", .initialized "java/lang/IndexOutOfBoundsException", .fieldLink RX6 36 "LedgerKiln" "court" "LLedgerKiln$Court;", .fieldLink RX6 311 "LedgerKiln$Court" "opened" "I"] ++ wsX60 ++ wsX20 ++ (vx_atS RX6 308 "java/lang/IndexOutOfBoundsException" ["java/lang/RuntimeException", "java/lang/Exception"]).filter goodWord)
def wsX6_close_r1 : List Cond := [Cond.classLink RX6 62 "java/lang/IllegalStateException", Cond.initialized "java/lang/IllegalStateException", Cond.fieldLink RX6 36 "LedgerKiln" "court" "LLedgerKiln$Court;", Cond.fieldLink RX6 196 "LedgerKiln$Court" "running" "[Z", Cond.fieldLink RX6 22 "LedgerKiln" "book" "LLedgerKiln$Book;", Cond.methodLink RX6 193 yX6_needCase, Cond.instanceMethod yX6_needCase, Cond.selects RX6 yX6_needCase yX6_needCase, Cond.initialized RX6, Cond.code yX6_needCase cX6_needCase 2 none, Cond.classLink RX6 304 "java/lang/IndexOutOfBoundsException", Cond.initialized "java/lang/IndexOutOfBoundsException", Cond.fieldLink RX6 311 "LedgerKiln$Court" "opened" "I", Cond.methodLink RX6 202 yX2_countHeldAlone, Cond.instanceMethod yX2_countHeldAlone, Cond.selects RX2 yX2_countHeldAlone yX2_countHeldAlone, Cond.initialized RX2, Cond.code yX2_countHeldAlone cX2_countHeldAlone 5 (some .int), Cond.fieldLink RX2 44 "LedgerKiln$Book" "count" "I", Cond.methodLink RX2 47 yX2_holdersOf, Cond.instanceMethod yX2_holdersOf, Cond.selects RX2 yX2_holdersOf yX2_holdersOf, Cond.code yX2_holdersOf cX2_holdersOf 7 (some .int), Cond.fieldLink RX2 35 "LedgerKiln$Book" "days" "[I"]
def wsX6_close_r2 : List Cond := [Cond.fieldLink RX2 32 "LedgerKiln$Court" "holds" "I", Cond.fieldLink RX2 26 "LedgerKiln$Court" "holdFroms" "[I", Cond.fieldLink RX2 29 "LedgerKiln$Court" "holdTos" "[I", Cond.fieldLink RX2 9 "LedgerKiln$Court" "running" "[Z", Cond.fieldLink RX2 19 "LedgerKiln$Court" "holdCases" "[I", Cond.fieldLink RX2 23 "LedgerKiln$Court" "holdAccounts" "[I", Cond.methodLink RX2 40 yX0_hasLegFor, Cond.instanceMethod yX0_hasLegFor, Cond.selects RX0 yX0_hasLegFor yX0_hasLegFor, Cond.initialized RX0, Cond.code yX0_hasLegFor cX0_hasLegFor 4 (some .boolean), Cond.fieldLink RX0 21 "LedgerKiln$Book" "legCounts" "[I", Cond.fieldLink RX0 24 "LedgerKiln$Book" "accounts" "[I"]
def wsX6_close : List Cond := .code yX6_close cX6_close 3 (some .int) :: ((wsX6_close_r1 ++ wsX6_close_r2) ++ wsX60 ++ wsX20 ++ wsX00 ++ (vx_atS RX6 66 "java/lang/IllegalStateException" ["java/lang/RuntimeException", "java/lang/Exception"]).filter goodWord ++ (vx_atS RX6 308 "java/lang/IndexOutOfBoundsException" ["java/lang/RuntimeException", "java/lang/Exception"]).filter goodWord)
def wsX6_hold_r1 : List Cond := [Cond.classLink RX6 51 "java/lang/IllegalArgumentException", Cond.initialized "java/lang/IllegalArgumentException", Cond.classLink RX6 62 "java/lang/IllegalStateException", Cond.initialized "java/lang/IllegalStateException", Cond.fieldLink RX6 36 "LedgerKiln" "court" "LLedgerKiln$Court;", Cond.fieldLink RX6 196 "LedgerKiln$Court" "running" "[Z", Cond.fieldLink RX6 22 "LedgerKiln" "book" "LLedgerKiln$Book;", Cond.methodLink RX6 193 yX6_needCase, Cond.instanceMethod yX6_needCase, Cond.selects RX6 yX6_needCase yX6_needCase, Cond.initialized RX6, Cond.code yX6_needCase cX6_needCase 2 none, Cond.classLink RX6 304 "java/lang/IndexOutOfBoundsException", Cond.initialized "java/lang/IndexOutOfBoundsException", Cond.fieldLink RX6 311 "LedgerKiln$Court" "opened" "I", Cond.methodLink RX6 44 yX6_needAccount, Cond.static yX6_needAccount, Cond.code yX6_needAccount cX6_needAccount 1 none, Cond.methodLink RX6 208 yX2_hasAllHolds, Cond.instanceMethod yX2_hasAllHolds, Cond.selects RX2 yX2_hasAllHolds yX2_hasAllHolds, Cond.initialized RX2, Cond.code yX2_hasAllHolds cX2_hasAllHolds 1 (some .boolean), Cond.fieldLink RX2 32 "LedgerKiln$Court" "holds" "I"]
def wsX6_hold_r2 : List Cond := [Cond.methodLink RX6 213 yX2_addHold, Cond.instanceMethod yX2_addHold, Cond.selects RX2 yX2_addHold yX2_addHold, Cond.code yX2_addHold cX2_addHold 5 none, Cond.fieldLink RX2 19 "LedgerKiln$Court" "holdCases" "[I", Cond.fieldLink RX2 23 "LedgerKiln$Court" "holdAccounts" "[I", Cond.fieldLink RX2 26 "LedgerKiln$Court" "holdFroms" "[I", Cond.fieldLink RX2 29 "LedgerKiln$Court" "holdTos" "[I", Cond.methodLink RX6 217 yX2_countHeld, Cond.instanceMethod yX2_countHeld, Cond.selects RX2 yX2_countHeld yX2_countHeld, Cond.code yX2_countHeld cX2_countHeld 5 (some .int), Cond.fieldLink RX2 44 "LedgerKiln$Book" "count" "I", Cond.methodLink RX2 47 yX2_holdersOf, Cond.instanceMethod yX2_holdersOf, Cond.selects RX2 yX2_holdersOf yX2_holdersOf, Cond.code yX2_holdersOf cX2_holdersOf 7 (some .int), Cond.fieldLink RX2 35 "LedgerKiln$Book" "days" "[I", Cond.fieldLink RX2 9 "LedgerKiln$Court" "running" "[Z", Cond.methodLink RX2 40 yX0_hasLegFor, Cond.instanceMethod yX0_hasLegFor, Cond.selects RX0 yX0_hasLegFor yX0_hasLegFor, Cond.initialized RX0, Cond.code yX0_hasLegFor cX0_hasLegFor 4 (some .boolean)]
def wsX6_hold_r3 : List Cond := [Cond.fieldLink RX0 21 "LedgerKiln$Book" "legCounts" "[I", Cond.fieldLink RX0 24 "LedgerKiln$Book" "accounts" "[I"]
def wsX6_hold : List Cond := .code yX6_hold cX6_hold 5 (some .int) :: ((wsX6_hold_r1 ++ (wsX6_hold_r2 ++ wsX6_hold_r3)) ++ wsX60 ++ wsX20 ++ wsX00 ++ (vx_atS RX6 55 "java/lang/IllegalArgumentException" ["java/lang/RuntimeException", "java/lang/Exception"]).filter goodWord ++ (vx_atS RX6 66 "java/lang/IllegalStateException" ["java/lang/RuntimeException", "java/lang/Exception"]).filter goodWord ++ (vx_atS RX6 308 "java/lang/IndexOutOfBoundsException" ["java/lang/RuntimeException", "java/lang/Exception"]).filter goodWord)
def wsX6_strike_r1 : List Cond := [Cond.classLink RX6 62 "java/lang/IllegalStateException", Cond.initialized "java/lang/IllegalStateException", Cond.fieldLink RX6 36 "LedgerKiln" "court" "LLedgerKiln$Court;", Cond.fieldLink RX6 22 "LedgerKiln" "book" "LLedgerKiln$Book;", Cond.fieldLink RX6 29 "LedgerKiln" "vault" "LLedgerKiln$Vault;", Cond.methodLink RX6 193 yX6_needCase, Cond.instanceMethod yX6_needCase, Cond.selects RX6 yX6_needCase yX6_needCase, Cond.initialized RX6, Cond.code yX6_needCase cX6_needCase 2 none, Cond.classLink RX6 304 "java/lang/IndexOutOfBoundsException", Cond.initialized "java/lang/IndexOutOfBoundsException", Cond.fieldLink RX6 311 "LedgerKiln$Court" "opened" "I", Cond.methodLink RX6 88 yX6_needPage, Cond.instanceMethod yX6_needPage, Cond.selects RX6 yX6_needPage yX6_needPage, Cond.code yX6_needPage cX6_needPage 2 none, Cond.fieldLink RX6 233 "LedgerKiln$Book" "count" "I", Cond.methodLink RX6 220 yX2_maySentence, Cond.instanceMethod yX2_maySentence, Cond.selects RX2 yX2_maySentence yX2_maySentence, Cond.initialized RX2, Cond.code yX2_maySentence cX2_maySentence 5 (some .boolean), Cond.fieldLink RX2 9 "LedgerKiln$Court" "running" "[Z"]
def wsX6_strike_r2 : List Cond := [Cond.fieldLink RX2 69 "LedgerKiln$Book" "now" "LLedgerKiln$Sheet;", Cond.methodLink RX2 47 yX2_holdersOf, Cond.instanceMethod yX2_holdersOf, Cond.selects RX2 yX2_holdersOf yX2_holdersOf, Cond.code yX2_holdersOf cX2_holdersOf 7 (some .int), Cond.fieldLink RX2 35 "LedgerKiln$Book" "days" "[I", Cond.fieldLink RX2 32 "LedgerKiln$Court" "holds" "I", Cond.fieldLink RX2 26 "LedgerKiln$Court" "holdFroms" "[I", Cond.fieldLink RX2 29 "LedgerKiln$Court" "holdTos" "[I", Cond.fieldLink RX2 19 "LedgerKiln$Court" "holdCases" "[I", Cond.fieldLink RX2 23 "LedgerKiln$Court" "holdAccounts" "[I", Cond.methodLink RX2 40 yX0_hasLegFor, Cond.instanceMethod yX0_hasLegFor, Cond.selects RX0 yX0_hasLegFor yX0_hasLegFor, Cond.initialized RX0, Cond.code yX0_hasLegFor cX0_hasLegFor 4 (some .boolean), Cond.fieldLink RX0 21 "LedgerKiln$Book" "legCounts" "[I", Cond.fieldLink RX0 24 "LedgerKiln$Book" "accounts" "[I", Cond.methodLink RX2 72 yX0_isTrueOn, Cond.instanceMethod yX0_isTrueOn, Cond.selects RX0 yX0_isTrueOn yX0_isTrueOn, Cond.code yX0_isTrueOn cX0_isTrueOn 3 (some .boolean), Cond.fieldLink RX0 40 "LedgerKiln$Book" "written" "LLedgerKiln$Sheet;", Cond.methodLink RX0 88 yX4_isLike]
def wsX6_strike_r3 : List Cond := [Cond.instanceMethod yX4_isLike, Cond.selects RX4 yX4_isLike yX4_isLike, Cond.initialized RX4, Cond.code yX4_isLike cX4_isLike 4 (some .boolean), Cond.fieldLink RX4 9 "LedgerKiln$Sheet" "filled" "[Z", Cond.methodLink RX4 26 yX4_amountOf, Cond.instanceMethod yX4_amountOf, Cond.selects RX4 yX4_amountOf yX4_amountOf, Cond.code yX4_amountOf cX4_amountOf 3 (some .int), Cond.fieldLink RX4 15 "LedgerKiln$Sheet" "amounts" "[I", Cond.methodLink RX6 226 yX0_markStruck, Cond.instanceMethod yX0_markStruck, Cond.selects RX0 yX0_markStruck yX0_markStruck, Cond.code yX0_markStruck cX0_markStruck 2 none, Cond.fieldLink RX0 34 "LedgerKiln$Book" "struck" "[Z", Cond.fieldLink RX0 44 "LedgerKiln$Book" "now" "LLedgerKiln$Sheet;", Cond.methodLink RX0 81 yX4_blank, Cond.instanceMethod yX4_blank, Cond.selects RX4 yX4_blank yX4_blank, Cond.code yX4_blank cX4_blank 4 (some .boolean), Cond.methodLink RX6 229 yX5_blankInVault, Cond.instanceMethod yX5_blankInVault, Cond.selects RX5 yX5_blankInVault yX5_blankInVault, Cond.initialized RX5]
def wsX6_strike_r4 : List Cond := [Cond.code yX5_blankInVault cX5_blankInVault 4 (some .int), Cond.fieldLink RX5 17 "LedgerKiln$Vault" "made" "I", Cond.fieldLink RX5 11 "LedgerKiln$Vault" "copies" "[LLedgerKiln$Copy;", Cond.fieldLink RX5 56 "LedgerKiln$Copy" "inVault" "Z", Cond.fieldLink RX5 35 "LedgerKiln$Copy" "sheet" "LLedgerKiln$Sheet;", Cond.methodLink RX5 60 yX4_blank, Cond.methodLink RX5 63 yX5_countFilled, Cond.instanceMethod yX5_countFilled, Cond.selects RX5 yX5_countFilled yX5_countFilled, Cond.code yX5_countFilled cX5_countFilled 5 (some .int), Cond.methodLink RX5 52 yX4_isFilled, Cond.instanceMethod yX4_isFilled, Cond.selects RX4 yX4_isFilled yX4_isFilled, Cond.code yX4_isFilled cX4_isFilled 2 (some .boolean)]
def wsX6_strike : List Cond := .code yX6_strike cX6_strike 3 (some .int) :: ((wsX6_strike_r1 ++ (wsX6_strike_r2 ++ (wsX6_strike_r3 ++ wsX6_strike_r4))) ++ wsX60 ++ wsX20 ++ wsX00 ++ wsX40 ++ wsX50 ++ wsX10 ++ (vx_atS RX6 66 "java/lang/IllegalStateException" ["java/lang/RuntimeException", "java/lang/Exception"]).filter goodWord ++ (vx_atS RX6 308 "java/lang/IndexOutOfBoundsException" ["java/lang/RuntimeException", "java/lang/Exception"]).filter goodWord)
def wsX6_day : List Cond := .code yX6_day cX6_day 1 (some .int) :: ([.fieldLink RX6 40 "LedgerKiln" "today" "I"] ++ wsX60)
def wsX6_pages : List Cond := .code yX6_pages cX6_pages 1 (some .int) :: ([.fieldLink RX6 22 "LedgerKiln" "book" "LLedgerKiln$Book;", .fieldLink RX6 233 "LedgerKiln$Book" "count" "I"] ++ wsX60 ++ wsX00)
def wsX6_state : List Cond := .code yX6_state cX6_state 2 (some .int) :: ([.fieldLink RX6 22 "LedgerKiln" "book" "LLedgerKiln$Book;", .methodLink RX6 88 yX6_needPage, .instanceMethod yX6_needPage, .selects RX6 yX6_needPage yX6_needPage, .initialized RX6, .code yX6_needPage cX6_needPage 2 none, .classLink RX6 304 "java/lang/IndexOutOfBoundsException", .initialized "java/lang/IndexOutOfBoundsException", .fieldLink RX6 233 "LedgerKiln$Book" "count" "I", .methodLink RX6 236 yX0_stateOf, .instanceMethod yX0_stateOf, .selects RX0 yX0_stateOf yX0_stateOf, .initialized RX0, .code yX0_stateOf cX0_stateOf 2 (some .int), .fieldLink RX0 34 "LedgerKiln$Book" "struck" "[Z", .fieldLink RX0 44 "LedgerKiln$Book" "now" "LLedgerKiln$Sheet;", .methodLink RX0 85 yX4_isFilled, .instanceMethod yX4_isFilled, .selects RX4 yX4_isFilled yX4_isFilled, .initialized RX4, .code yX4_isFilled cX4_isFilled 2 (some .boolean), .fieldLink RX4 9 "LedgerKiln$Sheet" "filled" "[Z"] ++ wsX60 ++ wsX00 ++ wsX40 ++ (vx_atS RX6 308 "java/lang/IndexOutOfBoundsException" ["java/lang/RuntimeException", "java/lang/Exception"]).filter goodWord)
def wsX6_isTrue_r1 : List Cond := [Cond.fieldLink RX6 22 "LedgerKiln" "book" "LLedgerKiln$Book;", Cond.fieldLink RX6 107 "LedgerKiln$Book" "now" "LLedgerKiln$Sheet;", Cond.methodLink RX6 88 yX6_needPage, Cond.instanceMethod yX6_needPage, Cond.selects RX6 yX6_needPage yX6_needPage, Cond.initialized RX6, Cond.code yX6_needPage cX6_needPage 2 none, Cond.classLink RX6 304 "java/lang/IndexOutOfBoundsException", Cond.initialized "java/lang/IndexOutOfBoundsException", Cond.fieldLink RX6 233 "LedgerKiln$Book" "count" "I", Cond.methodLink RX6 239 yX0_isTrueOn, Cond.instanceMethod yX0_isTrueOn, Cond.selects RX0 yX0_isTrueOn yX0_isTrueOn, Cond.initialized RX0, Cond.code yX0_isTrueOn cX0_isTrueOn 3 (some .boolean), Cond.fieldLink RX0 40 "LedgerKiln$Book" "written" "LLedgerKiln$Sheet;", Cond.methodLink RX0 88 yX4_isLike, Cond.instanceMethod yX4_isLike, Cond.selects RX4 yX4_isLike yX4_isLike, Cond.initialized RX4, Cond.code yX4_isLike cX4_isLike 4 (some .boolean), Cond.fieldLink RX4 9 "LedgerKiln$Sheet" "filled" "[Z", Cond.methodLink RX4 26 yX4_amountOf, Cond.instanceMethod yX4_amountOf]
def wsX6_isTrue_r2 : List Cond := [Cond.selects RX4 yX4_amountOf yX4_amountOf, Cond.code yX4_amountOf cX4_amountOf 3 (some .int), Cond.fieldLink RX4 15 "LedgerKiln$Sheet" "amounts" "[I"]
def wsX6_isTrue : List Cond := .code yX6_isTrue cX6_isTrue 2 (some .boolean) :: ((wsX6_isTrue_r1 ++ wsX6_isTrue_r2) ++ wsX60 ++ wsX00 ++ wsX40 ++ (vx_atS RX6 308 "java/lang/IndexOutOfBoundsException" ["java/lang/RuntimeException", "java/lang/Exception"]).filter goodWord)
def wsX6_text : List Cond := .code yX6_text cX6_text 2 (some .int) :: ([.fieldLink RX6 22 "LedgerKiln" "book" "LLedgerKiln$Book;", .fieldLink RX6 107 "LedgerKiln$Book" "now" "LLedgerKiln$Sheet;", .fieldLink RX6 243 "LedgerKiln$Book" "texts" "[I", .methodLink RX6 88 yX6_needPage, .instanceMethod yX6_needPage, .selects RX6 yX6_needPage yX6_needPage, .initialized RX6, .code yX6_needPage cX6_needPage 2 none, .classLink RX6 304 "java/lang/IndexOutOfBoundsException", .initialized "java/lang/IndexOutOfBoundsException", .fieldLink RX6 233 "LedgerKiln$Book" "count" "I", .methodLink RX6 118 yX4_isFilled, .instanceMethod yX4_isFilled, .selects RX4 yX4_isFilled yX4_isFilled, .initialized RX4, .code yX4_isFilled cX4_isFilled 2 (some .boolean), .fieldLink RX4 9 "LedgerKiln$Sheet" "filled" "[Z"] ++ wsX60 ++ wsX00 ++ wsX40 ++ (vx_atS RX6 308 "java/lang/IndexOutOfBoundsException" ["java/lang/RuntimeException", "java/lang/Exception"]).filter goodWord)
def wsX6_mark : List Cond := .code yX6_mark cX6_mark 2 (some .int) :: ([.fieldLink RX6 22 "LedgerKiln" "book" "LLedgerKiln$Book;", .fieldLink RX6 246 "LedgerKiln$Book" "marks" "[I", .methodLink RX6 88 yX6_needPage, .instanceMethod yX6_needPage, .selects RX6 yX6_needPage yX6_needPage, .initialized RX6, .code yX6_needPage cX6_needPage 2 none, .classLink RX6 304 "java/lang/IndexOutOfBoundsException", .initialized "java/lang/IndexOutOfBoundsException", .fieldLink RX6 233 "LedgerKiln$Book" "count" "I"] ++ wsX60 ++ wsX00 ++ (vx_atS RX6 308 "java/lang/IndexOutOfBoundsException" ["java/lang/RuntimeException", "java/lang/Exception"]).filter goodWord)
def wsX6_reversal : List Cond := .code yX6_reversal cX6_reversal 2 (some .int) :: ([.fieldLink RX6 22 "LedgerKiln" "book" "LLedgerKiln$Book;", .fieldLink RX6 249 "LedgerKiln$Book" "reversals" "[I", .methodLink RX6 88 yX6_needPage, .instanceMethod yX6_needPage, .selects RX6 yX6_needPage yX6_needPage, .initialized RX6, .code yX6_needPage cX6_needPage 2 none, .classLink RX6 304 "java/lang/IndexOutOfBoundsException", .initialized "java/lang/IndexOutOfBoundsException", .fieldLink RX6 233 "LedgerKiln$Book" "count" "I"] ++ wsX60 ++ wsX00 ++ (vx_atS RX6 308 "java/lang/IndexOutOfBoundsException" ["java/lang/RuntimeException", "java/lang/Exception"]).filter goodWord)
def wsX6_proves_r1 : List Cond := [Cond.fieldLink RX6 10 "LedgerKiln" "draft" "LLedgerKiln$Legs;", Cond.fieldLink RX6 22 "LedgerKiln" "book" "LLedgerKiln$Book;", Cond.fieldLink RX6 252 "LedgerKiln$Book" "days" "[I", Cond.fieldLink RX6 246 "LedgerKiln$Book" "marks" "[I", Cond.methodLink RX6 88 yX6_needPage, Cond.instanceMethod yX6_needPage, Cond.selects RX6 yX6_needPage yX6_needPage, Cond.initialized RX6, Cond.code yX6_needPage cX6_needPage 2 none, Cond.classLink RX6 304 "java/lang/IndexOutOfBoundsException", Cond.initialized "java/lang/IndexOutOfBoundsException", Cond.fieldLink RX6 233 "LedgerKiln$Book" "count" "I", Cond.methodLink RX6 75 yX6_needText, Cond.static yX6_needText, Cond.code yX6_needText cX6_needText 1 none, Cond.classLink RX6 51 "java/lang/IllegalArgumentException", Cond.initialized "java/lang/IllegalArgumentException", Cond.methodLink RX6 255 yX3_markWith, Cond.instanceMethod yX3_markWith, Cond.selects RX3 yX3_markWith yX3_markWith, Cond.initialized RX3, Cond.code yX3_markWith cX3_markWith 5 (some .int), Cond.fieldLink RX3 18 "LedgerKiln$Legs" "count" "I", Cond.fieldLink RX3 9 "LedgerKiln$Legs" "accounts" "[I"]
def wsX6_proves_r2 : List Cond := [Cond.fieldLink RX3 15 "LedgerKiln$Legs" "amounts" "[I", Cond.methodLink RX3 22 yX3_nextMark, Cond.static yX3_nextMark, Cond.code yX3_nextMark cX3_nextMark 2 (some .int), Cond.constant RX3 26 (1000003)]
def wsX6_proves : List Cond := .code yX6_proves cX6_proves 3 (some .boolean) :: ((wsX6_proves_r1 ++ wsX6_proves_r2) ++ wsX60 ++ wsX00 ++ wsX30 ++ (vx_atS RX6 308 "java/lang/IndexOutOfBoundsException" ["java/lang/RuntimeException", "java/lang/Exception"]).filter goodWord ++ (vx_atS RX6 55 "java/lang/IllegalArgumentException" ["java/lang/RuntimeException", "java/lang/Exception"]).filter goodWord)
def wsX6_proven_r1 : List Cond := [Cond.fieldLink RX6 22 "LedgerKiln" "book" "LLedgerKiln$Book;", Cond.fieldLink RX6 258 "LedgerKiln$Book" "struck" "[Z", Cond.fieldLink RX6 261 "LedgerKiln$Book" "written" "LLedgerKiln$Sheet;", Cond.methodLink RX6 88 yX6_needPage, Cond.instanceMethod yX6_needPage, Cond.selects RX6 yX6_needPage yX6_needPage, Cond.initialized RX6, Cond.code yX6_needPage cX6_needPage 2 none, Cond.classLink RX6 304 "java/lang/IndexOutOfBoundsException", Cond.initialized "java/lang/IndexOutOfBoundsException", Cond.fieldLink RX6 233 "LedgerKiln$Book" "count" "I", Cond.methodLink RX6 44 yX6_needAccount, Cond.static yX6_needAccount, Cond.code yX6_needAccount cX6_needAccount 1 none, Cond.methodLink RX6 264 yX0_sumOn, Cond.instanceMethod yX0_sumOn, Cond.selects RX0 yX0_sumOn yX0_sumOn, Cond.initialized RX0, Cond.code yX0_sumOn cX0_sumOn 6 (some .int), Cond.fieldLink RX0 21 "LedgerKiln$Book" "legCounts" "[I", Cond.fieldLink RX0 24 "LedgerKiln$Book" "accounts" "[I", Cond.methodLink RX0 71 yX4_amountOf, Cond.instanceMethod yX4_amountOf, Cond.selects RX4 yX4_amountOf yX4_amountOf]
def wsX6_proven_r2 : List Cond := [Cond.initialized RX4, Cond.code yX4_amountOf cX4_amountOf 3 (some .int), Cond.fieldLink RX4 15 "LedgerKiln$Sheet" "amounts" "[I"]
def wsX6_proven : List Cond := .code yX6_proven cX6_proven 3 (some .int) :: ((wsX6_proven_r1 ++ wsX6_proven_r2) ++ wsX60 ++ wsX00 ++ wsX40 ++ (vx_atS RX6 308 "java/lang/IndexOutOfBoundsException" ["java/lang/RuntimeException", "java/lang/Exception"]).filter goodWord)
def wsX6_needPastDay : List Cond := .code yX6_needPastDay cX6_needPastDay 2 none :: ([.classLink RX6 51 "java/lang/IllegalArgumentException", .initialized "java/lang/IllegalArgumentException", .fieldLink RX6 40 "LedgerKiln" "today" "I"] ++ wsX60 ++ (vx_atS RX6 55 "java/lang/IllegalArgumentException" ["java/lang/RuntimeException", "java/lang/Exception"]).filter goodWord)
def wsX6_balance_r1 : List Cond := [Cond.fieldLink RX6 22 "LedgerKiln" "book" "LLedgerKiln$Book;", Cond.fieldLink RX6 261 "LedgerKiln$Book" "written" "LLedgerKiln$Sheet;", Cond.methodLink RX6 44 yX6_needAccount, Cond.static yX6_needAccount, Cond.initialized RX6, Cond.code yX6_needAccount cX6_needAccount 1 none, Cond.classLink RX6 304 "java/lang/IndexOutOfBoundsException", Cond.initialized "java/lang/IndexOutOfBoundsException", Cond.methodLink RX6 268 yX6_needPastDay, Cond.instanceMethod yX6_needPastDay, Cond.selects RX6 yX6_needPastDay yX6_needPastDay, Cond.code yX6_needPastDay cX6_needPastDay 2 none, Cond.classLink RX6 51 "java/lang/IllegalArgumentException", Cond.initialized "java/lang/IllegalArgumentException", Cond.fieldLink RX6 40 "LedgerKiln" "today" "I", Cond.methodLink RX6 271 yX0_countUpTo, Cond.instanceMethod yX0_countUpTo, Cond.selects RX0 yX0_countUpTo yX0_countUpTo, Cond.initialized RX0, Cond.code yX0_countUpTo cX0_countUpTo 3 (some .int), Cond.fieldLink RX0 47 "LedgerKiln$Book" "count" "I", Cond.fieldLink RX0 9 "LedgerKiln$Book" "days" "[I", Cond.methodLink RX6 264 yX0_sumOn, Cond.instanceMethod yX0_sumOn]
def wsX6_balance_r2 : List Cond := [Cond.selects RX0 yX0_sumOn yX0_sumOn, Cond.code yX0_sumOn cX0_sumOn 6 (some .int), Cond.fieldLink RX0 21 "LedgerKiln$Book" "legCounts" "[I", Cond.fieldLink RX0 24 "LedgerKiln$Book" "accounts" "[I", Cond.methodLink RX0 71 yX4_amountOf, Cond.instanceMethod yX4_amountOf, Cond.selects RX4 yX4_amountOf yX4_amountOf, Cond.initialized RX4, Cond.code yX4_amountOf cX4_amountOf 3 (some .int), Cond.fieldLink RX4 15 "LedgerKiln$Sheet" "amounts" "[I"]
def wsX6_balance : List Cond := .code yX6_balance cX6_balance 6 (some .int) :: ((wsX6_balance_r1 ++ wsX6_balance_r2) ++ wsX60 ++ wsX00 ++ wsX40 ++ (vx_atS RX6 308 "java/lang/IndexOutOfBoundsException" ["java/lang/RuntimeException", "java/lang/Exception"]).filter goodWord ++ (vx_atS RX6 55 "java/lang/IllegalArgumentException" ["java/lang/RuntimeException", "java/lang/Exception"]).filter goodWord)
def wsX6_balanceByPages_r1 : List Cond := [Cond.classLink RX6 62 "java/lang/IllegalStateException", Cond.initialized "java/lang/IllegalStateException", Cond.fieldLink RX6 22 "LedgerKiln" "book" "LLedgerKiln$Book;", Cond.fieldLink RX6 261 "LedgerKiln$Book" "written" "LLedgerKiln$Sheet;", Cond.fieldLink RX6 107 "LedgerKiln$Book" "now" "LLedgerKiln$Sheet;", Cond.methodLink RX6 44 yX6_needAccount, Cond.static yX6_needAccount, Cond.initialized RX6, Cond.code yX6_needAccount cX6_needAccount 1 none, Cond.classLink RX6 304 "java/lang/IndexOutOfBoundsException", Cond.initialized "java/lang/IndexOutOfBoundsException", Cond.methodLink RX6 268 yX6_needPastDay, Cond.instanceMethod yX6_needPastDay, Cond.selects RX6 yX6_needPastDay yX6_needPastDay, Cond.code yX6_needPastDay cX6_needPastDay 2 none, Cond.classLink RX6 51 "java/lang/IllegalArgumentException", Cond.initialized "java/lang/IllegalArgumentException", Cond.fieldLink RX6 40 "LedgerKiln" "today" "I", Cond.methodLink RX6 271 yX0_countUpTo, Cond.instanceMethod yX0_countUpTo, Cond.selects RX0 yX0_countUpTo yX0_countUpTo, Cond.initialized RX0, Cond.code yX0_countUpTo cX0_countUpTo 3 (some .int), Cond.fieldLink RX0 47 "LedgerKiln$Book" "count" "I"]
def wsX6_balanceByPages_r2 : List Cond := [Cond.fieldLink RX0 9 "LedgerKiln$Book" "days" "[I", Cond.methodLink RX6 236 yX0_stateOf, Cond.instanceMethod yX0_stateOf, Cond.selects RX0 yX0_stateOf yX0_stateOf, Cond.code yX0_stateOf cX0_stateOf 2 (some .int), Cond.fieldLink RX0 34 "LedgerKiln$Book" "struck" "[Z", Cond.fieldLink RX0 44 "LedgerKiln$Book" "now" "LLedgerKiln$Sheet;", Cond.methodLink RX0 85 yX4_isFilled, Cond.instanceMethod yX4_isFilled, Cond.selects RX4 yX4_isFilled yX4_isFilled, Cond.initialized RX4, Cond.code yX4_isFilled cX4_isFilled 2 (some .boolean), Cond.fieldLink RX4 9 "LedgerKiln$Sheet" "filled" "[Z", Cond.methodLink RX6 264 yX0_sumOn, Cond.instanceMethod yX0_sumOn, Cond.selects RX0 yX0_sumOn yX0_sumOn, Cond.code yX0_sumOn cX0_sumOn 6 (some .int), Cond.fieldLink RX0 21 "LedgerKiln$Book" "legCounts" "[I", Cond.fieldLink RX0 24 "LedgerKiln$Book" "accounts" "[I", Cond.methodLink RX0 71 yX4_amountOf, Cond.instanceMethod yX4_amountOf, Cond.selects RX4 yX4_amountOf yX4_amountOf, Cond.code yX4_amountOf cX4_amountOf 3 (some .int), Cond.fieldLink RX4 15 "LedgerKiln$Sheet" "amounts" "[I"]
def wsX6_balanceByPages : List Cond := .code yX6_balanceByPages cX6_balanceByPages 7 (some .int) :: ((wsX6_balanceByPages_r1 ++ wsX6_balanceByPages_r2) ++ wsX60 ++ wsX00 ++ wsX40 ++ (vx_atS RX6 66 "java/lang/IllegalStateException" ["java/lang/RuntimeException", "java/lang/Exception"]).filter goodWord ++ (vx_atS RX6 308 "java/lang/IndexOutOfBoundsException" ["java/lang/RuntimeException", "java/lang/Exception"]).filter goodWord ++ (vx_atS RX6 55 "java/lang/IllegalArgumentException" ["java/lang/RuntimeException", "java/lang/Exception"]).filter goodWord)
def wsX6_isToldTruly_r1 : List Cond := [Cond.fieldLink RX6 29 "LedgerKiln" "vault" "LLedgerKiln$Vault;", Cond.fieldLink RX6 22 "LedgerKiln" "book" "LLedgerKiln$Book;", Cond.fieldLink RX6 258 "LedgerKiln$Book" "struck" "[Z", Cond.fieldLink RX6 107 "LedgerKiln$Book" "now" "LLedgerKiln$Sheet;", Cond.methodLink RX6 281 yX5_hasTrue, Cond.instanceMethod yX5_hasTrue, Cond.selects RX5 yX5_hasTrue yX5_hasTrue, Cond.initialized RX5, Cond.code yX5_hasTrue cX5_hasTrue 6 (some .boolean), Cond.fieldLink RX5 17 "LedgerKiln$Vault" "made" "I", Cond.fieldLink RX5 11 "LedgerKiln$Vault" "copies" "[LLedgerKiln$Copy;", Cond.fieldLink RX5 56 "LedgerKiln$Copy" "inVault" "Z", Cond.fieldLink RX5 35 "LedgerKiln$Copy" "sheet" "LLedgerKiln$Sheet;", Cond.methodLink RX5 67 yX0_isTrueOn, Cond.instanceMethod yX0_isTrueOn, Cond.selects RX0 yX0_isTrueOn yX0_isTrueOn, Cond.initialized RX0, Cond.code yX0_isTrueOn cX0_isTrueOn 3 (some .boolean), Cond.fieldLink RX0 40 "LedgerKiln$Book" "written" "LLedgerKiln$Sheet;", Cond.methodLink RX0 88 yX4_isLike, Cond.instanceMethod yX4_isLike, Cond.selects RX4 yX4_isLike yX4_isLike, Cond.initialized RX4, Cond.code yX4_isLike cX4_isLike 4 (some .boolean)]
def wsX6_isToldTruly_r2 : List Cond := [Cond.fieldLink RX4 9 "LedgerKiln$Sheet" "filled" "[Z", Cond.methodLink RX4 26 yX4_amountOf, Cond.instanceMethod yX4_amountOf, Cond.selects RX4 yX4_amountOf yX4_amountOf, Cond.code yX4_amountOf cX4_amountOf 3 (some .int), Cond.fieldLink RX4 15 "LedgerKiln$Sheet" "amounts" "[I", Cond.methodLink RX6 239 yX0_isTrueOn]
def wsX6_isToldTruly : List Cond := .code yX6_isToldTruly cX6_isToldTruly 2 (some .boolean) :: ((wsX6_isToldTruly_r1 ++ wsX6_isToldTruly_r2) ++ wsX60 ++ wsX00 ++ wsX50 ++ wsX10 ++ wsX40)
def wsX6_balanceByCopies_r1 : List Cond := [Cond.classLink RX6 62 "java/lang/IllegalStateException", Cond.initialized "java/lang/IllegalStateException", Cond.fieldLink RX6 22 "LedgerKiln" "book" "LLedgerKiln$Book;", Cond.fieldLink RX6 261 "LedgerKiln$Book" "written" "LLedgerKiln$Sheet;", Cond.methodLink RX6 44 yX6_needAccount, Cond.static yX6_needAccount, Cond.initialized RX6, Cond.code yX6_needAccount cX6_needAccount 1 none, Cond.classLink RX6 304 "java/lang/IndexOutOfBoundsException", Cond.initialized "java/lang/IndexOutOfBoundsException", Cond.methodLink RX6 268 yX6_needPastDay, Cond.instanceMethod yX6_needPastDay, Cond.selects RX6 yX6_needPastDay yX6_needPastDay, Cond.code yX6_needPastDay cX6_needPastDay 2 none, Cond.classLink RX6 51 "java/lang/IllegalArgumentException", Cond.initialized "java/lang/IllegalArgumentException", Cond.fieldLink RX6 40 "LedgerKiln" "today" "I", Cond.methodLink RX6 271 yX0_countUpTo, Cond.instanceMethod yX0_countUpTo, Cond.selects RX0 yX0_countUpTo yX0_countUpTo, Cond.initialized RX0, Cond.code yX0_countUpTo cX0_countUpTo 3 (some .int), Cond.fieldLink RX0 47 "LedgerKiln$Book" "count" "I", Cond.fieldLink RX0 9 "LedgerKiln$Book" "days" "[I"]
def wsX6_balanceByCopies_r2 : List Cond := [Cond.methodLink RX6 276 yX6_isToldTruly, Cond.instanceMethod yX6_isToldTruly, Cond.selects RX6 yX6_isToldTruly yX6_isToldTruly, Cond.code yX6_isToldTruly cX6_isToldTruly 2 (some .boolean), Cond.fieldLink RX6 29 "LedgerKiln" "vault" "LLedgerKiln$Vault;", Cond.fieldLink RX6 258 "LedgerKiln$Book" "struck" "[Z", Cond.fieldLink RX6 107 "LedgerKiln$Book" "now" "LLedgerKiln$Sheet;", Cond.methodLink RX6 281 yX5_hasTrue, Cond.instanceMethod yX5_hasTrue, Cond.selects RX5 yX5_hasTrue yX5_hasTrue, Cond.initialized RX5, Cond.code yX5_hasTrue cX5_hasTrue 6 (some .boolean), Cond.fieldLink RX5 17 "LedgerKiln$Vault" "made" "I", Cond.fieldLink RX5 11 "LedgerKiln$Vault" "copies" "[LLedgerKiln$Copy;", Cond.fieldLink RX5 56 "LedgerKiln$Copy" "inVault" "Z", Cond.fieldLink RX5 35 "LedgerKiln$Copy" "sheet" "LLedgerKiln$Sheet;", Cond.methodLink RX5 67 yX0_isTrueOn, Cond.instanceMethod yX0_isTrueOn, Cond.selects RX0 yX0_isTrueOn yX0_isTrueOn, Cond.code yX0_isTrueOn cX0_isTrueOn 3 (some .boolean), Cond.fieldLink RX0 40 "LedgerKiln$Book" "written" "LLedgerKiln$Sheet;", Cond.methodLink RX0 88 yX4_isLike, Cond.instanceMethod yX4_isLike, Cond.selects RX4 yX4_isLike yX4_isLike]
def wsX6_balanceByCopies_r3 : List Cond := [Cond.initialized RX4, Cond.code yX4_isLike cX4_isLike 4 (some .boolean), Cond.fieldLink RX4 9 "LedgerKiln$Sheet" "filled" "[Z", Cond.methodLink RX4 26 yX4_amountOf, Cond.instanceMethod yX4_amountOf, Cond.selects RX4 yX4_amountOf yX4_amountOf, Cond.code yX4_amountOf cX4_amountOf 3 (some .int), Cond.fieldLink RX4 15 "LedgerKiln$Sheet" "amounts" "[I", Cond.methodLink RX6 239 yX0_isTrueOn, Cond.methodLink RX6 264 yX0_sumOn, Cond.instanceMethod yX0_sumOn, Cond.selects RX0 yX0_sumOn yX0_sumOn, Cond.code yX0_sumOn cX0_sumOn 6 (some .int), Cond.fieldLink RX0 21 "LedgerKiln$Book" "legCounts" "[I", Cond.fieldLink RX0 24 "LedgerKiln$Book" "accounts" "[I", Cond.methodLink RX0 71 yX4_amountOf]
def wsX6_balanceByCopies : List Cond := .code yX6_balanceByCopies cX6_balanceByCopies 6 (some .int) :: ((wsX6_balanceByCopies_r1 ++ (wsX6_balanceByCopies_r2 ++ wsX6_balanceByCopies_r3)) ++ wsX60 ++ wsX00 ++ wsX50 ++ wsX10 ++ wsX40 ++ (vx_atS RX6 66 "java/lang/IllegalStateException" ["java/lang/RuntimeException", "java/lang/Exception"]).filter goodWord ++ (vx_atS RX6 308 "java/lang/IndexOutOfBoundsException" ["java/lang/RuntimeException", "java/lang/Exception"]).filter goodWord ++ (vx_atS RX6 55 "java/lang/IllegalArgumentException" ["java/lang/RuntimeException", "java/lang/Exception"]).filter goodWord)
def wsX6_copies : List Cond := .code yX6_copies cX6_copies 1 (some .int) :: ([.fieldLink RX6 29 "LedgerKiln" "vault" "LLedgerKiln$Vault;", .methodLink RX6 172 yX5_countThere, .instanceMethod yX5_countThere, .selects RX5 yX5_countThere yX5_countThere, .initialized RX5, .code yX5_countThere cX5_countThere 3 (some .int), .fieldLink RX5 17 "LedgerKiln$Vault" "made" "I", .fieldLink RX5 11 "LedgerKiln$Vault" "copies" "[LLedgerKiln$Copy;"] ++ wsX60 ++ wsX50)
def wsX6_size : List Cond := .code yX6_size cX6_size 3 (some .int) :: ([.fieldLink RX6 285 "LedgerKiln$Copy" "end" "I", .fieldLink RX6 288 "LedgerKiln$Copy" "first" "I", .methodLink RX6 138 yX6_needCopy, .instanceMethod yX6_needCopy, .selects RX6 yX6_needCopy yX6_needCopy, .initialized RX6, .code yX6_needCopy cX6_needCopy 3 (some (.object "LedgerKiln$Copy")), .classLink RX6 304 "java/lang/IndexOutOfBoundsException", .initialized "java/lang/IndexOutOfBoundsException", .fieldLink RX6 29 "LedgerKiln" "vault" "LLedgerKiln$Vault;", .methodLink RX6 316 yX5_find, .instanceMethod yX5_find, .selects RX5 yX5_find yX5_find, .initialized RX5, .code yX5_find cX5_find 2 (some (.object "LedgerKiln$Copy")), .fieldLink RX5 17 "LedgerKiln$Vault" "made" "I", .fieldLink RX5 11 "LedgerKiln$Vault" "copies" "[LLedgerKiln$Copy;"] ++ wsX10 ++ wsX60 ++ wsX50 ++ (vx_atS RX6 308 "java/lang/IndexOutOfBoundsException" ["java/lang/RuntimeException", "java/lang/Exception"]).filter goodWord)
def wsX6_isInVault : List Cond := .code yX6_isInVault cX6_isInVault 3 (some .boolean) :: ([.fieldLink RX6 142 "LedgerKiln$Copy" "inVault" "Z", .methodLink RX6 138 yX6_needCopy, .instanceMethod yX6_needCopy, .selects RX6 yX6_needCopy yX6_needCopy, .initialized RX6, .code yX6_needCopy cX6_needCopy 3 (some (.object "LedgerKiln$Copy")), .classLink RX6 304 "java/lang/IndexOutOfBoundsException", .initialized "java/lang/IndexOutOfBoundsException", .fieldLink RX6 29 "LedgerKiln" "vault" "LLedgerKiln$Vault;", .methodLink RX6 316 yX5_find, .instanceMethod yX5_find, .selects RX5 yX5_find yX5_find, .initialized RX5, .code yX5_find cX5_find 2 (some (.object "LedgerKiln$Copy")), .fieldLink RX5 17 "LedgerKiln$Vault" "made" "I", .fieldLink RX5 11 "LedgerKiln$Vault" "copies" "[LLedgerKiln$Copy;"] ++ wsX10 ++ wsX60 ++ wsX50 ++ (vx_atS RX6 308 "java/lang/IndexOutOfBoundsException" ["java/lang/RuntimeException", "java/lang/Exception"]).filter goodWord)
def wsX6_stands_r1 : List Cond := [Cond.fieldLink RX6 156 "LedgerKiln$Copy" "sheet" "LLedgerKiln$Sheet;", Cond.methodLink RX6 138 yX6_needCopy, Cond.instanceMethod yX6_needCopy, Cond.selects RX6 yX6_needCopy yX6_needCopy, Cond.initialized RX6, Cond.code yX6_needCopy cX6_needCopy 3 (some (.object "LedgerKiln$Copy")), Cond.classLink RX6 304 "java/lang/IndexOutOfBoundsException", Cond.initialized "java/lang/IndexOutOfBoundsException", Cond.fieldLink RX6 29 "LedgerKiln" "vault" "LLedgerKiln$Vault;", Cond.methodLink RX6 316 yX5_find, Cond.instanceMethod yX5_find, Cond.selects RX5 yX5_find yX5_find, Cond.initialized RX5, Cond.code yX5_find cX5_find 2 (some (.object "LedgerKiln$Copy")), Cond.fieldLink RX5 17 "LedgerKiln$Vault" "made" "I", Cond.fieldLink RX5 11 "LedgerKiln$Vault" "copies" "[LLedgerKiln$Copy;", Cond.methodLink RX6 152 yX6_needPageIn, Cond.static yX6_needPageIn, Cond.code yX6_needPageIn cX6_needPageIn 2 none, Cond.fieldLink RX6 288 "LedgerKiln$Copy" "first" "I", Cond.fieldLink RX6 285 "LedgerKiln$Copy" "end" "I", Cond.methodLink RX6 118 yX4_isFilled, Cond.instanceMethod yX4_isFilled, Cond.selects RX4 yX4_isFilled yX4_isFilled]
def wsX6_stands_r2 : List Cond := [Cond.initialized RX4, Cond.code yX4_isFilled cX4_isFilled 2 (some .boolean), Cond.fieldLink RX4 9 "LedgerKiln$Sheet" "filled" "[Z"]
def wsX6_stands : List Cond := .code yX6_stands cX6_stands 4 (some .boolean) :: ((wsX6_stands_r1 ++ wsX6_stands_r2) ++ wsX10 ++ wsX60 ++ wsX50 ++ wsX40 ++ (vx_atS RX6 308 "java/lang/IndexOutOfBoundsException" ["java/lang/RuntimeException", "java/lang/Exception"]).filter goodWord)
def wsX6_copiesOf : List Cond := .code yX6_copiesOf cX6_copiesOf 2 (some .int) :: ([.fieldLink RX6 29 "LedgerKiln" "vault" "LLedgerKiln$Vault;", .methodLink RX6 88 yX6_needPage, .instanceMethod yX6_needPage, .selects RX6 yX6_needPage yX6_needPage, .initialized RX6, .code yX6_needPage cX6_needPage 2 none, .classLink RX6 304 "java/lang/IndexOutOfBoundsException", .initialized "java/lang/IndexOutOfBoundsException", .fieldLink RX6 22 "LedgerKiln" "book" "LLedgerKiln$Book;", .fieldLink RX6 233 "LedgerKiln$Book" "count" "I", .methodLink RX6 291 yX5_countFilled, .instanceMethod yX5_countFilled, .selects RX5 yX5_countFilled yX5_countFilled, .initialized RX5, .code yX5_countFilled cX5_countFilled 5 (some .int), .fieldLink RX5 17 "LedgerKiln$Vault" "made" "I", .fieldLink RX5 11 "LedgerKiln$Vault" "copies" "[LLedgerKiln$Copy;", .fieldLink RX5 35 "LedgerKiln$Copy" "sheet" "LLedgerKiln$Sheet;", .methodLink RX5 52 yX4_isFilled, .instanceMethod yX4_isFilled, .selects RX4 yX4_isFilled yX4_isFilled, .initialized RX4, .code yX4_isFilled cX4_isFilled 2 (some .boolean), .fieldLink RX4 9 "LedgerKiln$Sheet" "filled" "[Z"] ++ wsX60 ++ wsX00 ++ wsX50 ++ wsX10 ++ wsX40 ++ (vx_atS RX6 308 "java/lang/IndexOutOfBoundsException" ["java/lang/RuntimeException", "java/lang/Exception"]).filter goodWord)
def wsX6_canRestore : List Cond := .code yX6_canRestore cX6_canRestore 3 (some .boolean) :: ([.methodLink RX6 138 yX6_needCopy, .instanceMethod yX6_needCopy, .selects RX6 yX6_needCopy yX6_needCopy, .initialized RX6, .code yX6_needCopy cX6_needCopy 3 (some (.object "LedgerKiln$Copy")), .classLink RX6 304 "java/lang/IndexOutOfBoundsException", .initialized "java/lang/IndexOutOfBoundsException", .fieldLink RX6 29 "LedgerKiln" "vault" "LLedgerKiln$Vault;", .methodLink RX6 316 yX5_find, .instanceMethod yX5_find, .selects RX5 yX5_find yX5_find, .initialized RX5, .code yX5_find cX5_find 2 (some (.object "LedgerKiln$Copy")), .fieldLink RX5 17 "LedgerKiln$Vault" "made" "I", .fieldLink RX5 11 "LedgerKiln$Vault" "copies" "[LLedgerKiln$Copy;", .methodLink RX6 175 yX1_isChainInVault, .instanceMethod yX1_isChainInVault, .selects RX1 yX1_isChainInVault yX1_isChainInVault, .initialized RX1, .code yX1_isChainInVault cX1_isChainInVault 2 (some .boolean), .fieldLink RX1 16 "LedgerKiln$Copy" "inVault" "Z", .fieldLink RX1 20 "LedgerKiln$Copy" "base" "LLedgerKiln$Copy;"] ++ wsX60 ++ wsX50 ++ wsX10 ++ (vx_atS RX6 308 "java/lang/IndexOutOfBoundsException" ["java/lang/RuntimeException", "java/lang/Exception"]).filter goodWord)
def wsX6_gaps : List Cond := .code yX6_gaps cX6_gaps 1 (some .int) :: ([.fieldLink RX6 22 "LedgerKiln" "book" "LLedgerKiln$Book;", .methodLink RX6 294 yX0_countBurnt, .instanceMethod yX0_countBurnt, .selects RX0 yX0_countBurnt yX0_countBurnt, .initialized RX0, .code yX0_countBurnt cX0_countBurnt 3 (some .int), .fieldLink RX0 47 "LedgerKiln$Book" "count" "I", .methodLink RX0 91 yX0_stateOf, .instanceMethod yX0_stateOf, .selects RX0 yX0_stateOf yX0_stateOf, .code yX0_stateOf cX0_stateOf 2 (some .int), .fieldLink RX0 34 "LedgerKiln$Book" "struck" "[Z", .fieldLink RX0 44 "LedgerKiln$Book" "now" "LLedgerKiln$Sheet;", .methodLink RX0 85 yX4_isFilled, .instanceMethod yX4_isFilled, .selects RX4 yX4_isFilled yX4_isFilled, .initialized RX4, .code yX4_isFilled cX4_isFilled 2 (some .boolean), .fieldLink RX4 9 "LedgerKiln$Sheet" "filled" "[Z"] ++ wsX60 ++ wsX00 ++ wsX40)
def wsX6_lost_r1 : List Cond := [Cond.fieldLink RX6 22 "LedgerKiln" "book" "LLedgerKiln$Book;", Cond.fieldLink RX6 233 "LedgerKiln$Book" "count" "I", Cond.fieldLink RX6 29 "LedgerKiln" "vault" "LLedgerKiln$Vault;", Cond.methodLink RX6 236 yX0_stateOf, Cond.instanceMethod yX0_stateOf, Cond.selects RX0 yX0_stateOf yX0_stateOf, Cond.initialized RX0, Cond.code yX0_stateOf cX0_stateOf 2 (some .int), Cond.fieldLink RX0 34 "LedgerKiln$Book" "struck" "[Z", Cond.fieldLink RX0 44 "LedgerKiln$Book" "now" "LLedgerKiln$Sheet;", Cond.methodLink RX0 85 yX4_isFilled, Cond.instanceMethod yX4_isFilled, Cond.selects RX4 yX4_isFilled yX4_isFilled, Cond.initialized RX4, Cond.code yX4_isFilled cX4_isFilled 2 (some .boolean), Cond.fieldLink RX4 9 "LedgerKiln$Sheet" "filled" "[Z", Cond.methodLink RX6 281 yX5_hasTrue, Cond.instanceMethod yX5_hasTrue, Cond.selects RX5 yX5_hasTrue yX5_hasTrue, Cond.initialized RX5, Cond.code yX5_hasTrue cX5_hasTrue 6 (some .boolean), Cond.fieldLink RX5 17 "LedgerKiln$Vault" "made" "I", Cond.fieldLink RX5 11 "LedgerKiln$Vault" "copies" "[LLedgerKiln$Copy;", Cond.fieldLink RX5 56 "LedgerKiln$Copy" "inVault" "Z"]
def wsX6_lost_r2 : List Cond := [Cond.fieldLink RX5 35 "LedgerKiln$Copy" "sheet" "LLedgerKiln$Sheet;", Cond.methodLink RX5 67 yX0_isTrueOn, Cond.instanceMethod yX0_isTrueOn, Cond.selects RX0 yX0_isTrueOn yX0_isTrueOn, Cond.code yX0_isTrueOn cX0_isTrueOn 3 (some .boolean), Cond.fieldLink RX0 40 "LedgerKiln$Book" "written" "LLedgerKiln$Sheet;", Cond.methodLink RX0 88 yX4_isLike, Cond.instanceMethod yX4_isLike, Cond.selects RX4 yX4_isLike yX4_isLike, Cond.code yX4_isLike cX4_isLike 4 (some .boolean), Cond.methodLink RX4 26 yX4_amountOf, Cond.instanceMethod yX4_amountOf, Cond.selects RX4 yX4_amountOf yX4_amountOf, Cond.code yX4_amountOf cX4_amountOf 3 (some .int), Cond.fieldLink RX4 15 "LedgerKiln$Sheet" "amounts" "[I"]
def wsX6_lost : List Cond := .code yX6_lost cX6_lost 3 (some .int) :: ((wsX6_lost_r1 ++ wsX6_lost_r2) ++ wsX60 ++ wsX00 ++ wsX40 ++ wsX50 ++ wsX10)
def wsX6_audit_r1 : List Cond := [Cond.fieldLink RX6 288 "LedgerKiln$Copy" "first" "I", Cond.fieldLink RX6 285 "LedgerKiln$Copy" "end" "I", Cond.fieldLink RX6 156 "LedgerKiln$Copy" "sheet" "LLedgerKiln$Sheet;", Cond.fieldLink RX6 22 "LedgerKiln" "book" "LLedgerKiln$Book;", Cond.fieldLink RX6 107 "LedgerKiln$Book" "now" "LLedgerKiln$Sheet;", Cond.methodLink RX6 138 yX6_needCopy, Cond.instanceMethod yX6_needCopy, Cond.selects RX6 yX6_needCopy yX6_needCopy, Cond.initialized RX6, Cond.code yX6_needCopy cX6_needCopy 3 (some (.object "LedgerKiln$Copy")), Cond.classLink RX6 304 "java/lang/IndexOutOfBoundsException", Cond.initialized "java/lang/IndexOutOfBoundsException", Cond.fieldLink RX6 29 "LedgerKiln" "vault" "LLedgerKiln$Vault;", Cond.methodLink RX6 316 yX5_find, Cond.instanceMethod yX5_find, Cond.selects RX5 yX5_find yX5_find, Cond.initialized RX5, Cond.code yX5_find cX5_find 2 (some (.object "LedgerKiln$Copy")), Cond.fieldLink RX5 17 "LedgerKiln$Vault" "made" "I", Cond.fieldLink RX5 11 "LedgerKiln$Vault" "copies" "[LLedgerKiln$Copy;", Cond.methodLink RX6 297 yX4_isLike, Cond.instanceMethod yX4_isLike, Cond.selects RX4 yX4_isLike yX4_isLike, Cond.initialized RX4]
def wsX6_audit_r2 : List Cond := [Cond.code yX4_isLike cX4_isLike 4 (some .boolean), Cond.fieldLink RX4 9 "LedgerKiln$Sheet" "filled" "[Z", Cond.methodLink RX4 26 yX4_amountOf, Cond.instanceMethod yX4_amountOf, Cond.selects RX4 yX4_amountOf yX4_amountOf, Cond.code yX4_amountOf cX4_amountOf 3 (some .int), Cond.fieldLink RX4 15 "LedgerKiln$Sheet" "amounts" "[I"]
def wsX6_audit : List Cond := .code yX6_audit cX6_audit 5 (some .int) :: ((wsX6_audit_r1 ++ wsX6_audit_r2) ++ wsX10 ++ wsX60 ++ wsX00 ++ wsX50 ++ wsX40 ++ (vx_atS RX6 308 "java/lang/IndexOutOfBoundsException" ["java/lang/RuntimeException", "java/lang/Exception"]).filter goodWord)
def wsX6_isOpen : List Cond := .code yX6_isOpen cX6_isOpen 2 (some .boolean) :: ([.fieldLink RX6 36 "LedgerKiln" "court" "LLedgerKiln$Court;", .fieldLink RX6 196 "LedgerKiln$Court" "running" "[Z", .methodLink RX6 193 yX6_needCase, .instanceMethod yX6_needCase, .selects RX6 yX6_needCase yX6_needCase, .initialized RX6, .code yX6_needCase cX6_needCase 2 none, .classLink RX6 304 "java/lang/IndexOutOfBoundsException", .initialized "java/lang/IndexOutOfBoundsException", .fieldLink RX6 311 "LedgerKiln$Court" "opened" "I"] ++ wsX60 ++ wsX20 ++ (vx_atS RX6 308 "java/lang/IndexOutOfBoundsException" ["java/lang/RuntimeException", "java/lang/Exception"]).filter goodWord)
def wsX6_holders_r1 : List Cond := [Cond.fieldLink RX6 36 "LedgerKiln" "court" "LLedgerKiln$Court;", Cond.fieldLink RX6 22 "LedgerKiln" "book" "LLedgerKiln$Book;", Cond.methodLink RX6 88 yX6_needPage, Cond.instanceMethod yX6_needPage, Cond.selects RX6 yX6_needPage yX6_needPage, Cond.initialized RX6, Cond.code yX6_needPage cX6_needPage 2 none, Cond.classLink RX6 304 "java/lang/IndexOutOfBoundsException", Cond.initialized "java/lang/IndexOutOfBoundsException", Cond.fieldLink RX6 233 "LedgerKiln$Book" "count" "I", Cond.methodLink RX6 300 yX2_holdersOf, Cond.instanceMethod yX2_holdersOf, Cond.selects RX2 yX2_holdersOf yX2_holdersOf, Cond.initialized RX2, Cond.code yX2_holdersOf cX2_holdersOf 7 (some .int), Cond.fieldLink RX2 35 "LedgerKiln$Book" "days" "[I", Cond.fieldLink RX2 32 "LedgerKiln$Court" "holds" "I", Cond.fieldLink RX2 26 "LedgerKiln$Court" "holdFroms" "[I", Cond.fieldLink RX2 29 "LedgerKiln$Court" "holdTos" "[I", Cond.fieldLink RX2 9 "LedgerKiln$Court" "running" "[Z", Cond.fieldLink RX2 19 "LedgerKiln$Court" "holdCases" "[I", Cond.fieldLink RX2 23 "LedgerKiln$Court" "holdAccounts" "[I", Cond.methodLink RX2 40 yX0_hasLegFor, Cond.instanceMethod yX0_hasLegFor]
def wsX6_holders_r2 : List Cond := [Cond.selects RX0 yX0_hasLegFor yX0_hasLegFor, Cond.initialized RX0, Cond.code yX0_hasLegFor cX0_hasLegFor 4 (some .boolean), Cond.fieldLink RX0 21 "LedgerKiln$Book" "legCounts" "[I", Cond.fieldLink RX0 24 "LedgerKiln$Book" "accounts" "[I"]
def wsX6_holders : List Cond := .code yX6_holders cX6_holders 2 (some .int) :: ((wsX6_holders_r1 ++ wsX6_holders_r2) ++ wsX60 ++ wsX00 ++ wsX20 ++ (vx_atS RX6 308 "java/lang/IndexOutOfBoundsException" ["java/lang/RuntimeException", "java/lang/Exception"]).filter goodWord)
def wsX6_canStrike_r1 : List Cond := [Cond.fieldLink RX6 36 "LedgerKiln" "court" "LLedgerKiln$Court;", Cond.fieldLink RX6 22 "LedgerKiln" "book" "LLedgerKiln$Book;", Cond.methodLink RX6 193 yX6_needCase, Cond.instanceMethod yX6_needCase, Cond.selects RX6 yX6_needCase yX6_needCase, Cond.initialized RX6, Cond.code yX6_needCase cX6_needCase 2 none, Cond.classLink RX6 304 "java/lang/IndexOutOfBoundsException", Cond.initialized "java/lang/IndexOutOfBoundsException", Cond.fieldLink RX6 311 "LedgerKiln$Court" "opened" "I", Cond.methodLink RX6 88 yX6_needPage, Cond.instanceMethod yX6_needPage, Cond.selects RX6 yX6_needPage yX6_needPage, Cond.code yX6_needPage cX6_needPage 2 none, Cond.fieldLink RX6 233 "LedgerKiln$Book" "count" "I", Cond.methodLink RX6 220 yX2_maySentence, Cond.instanceMethod yX2_maySentence, Cond.selects RX2 yX2_maySentence yX2_maySentence, Cond.initialized RX2, Cond.code yX2_maySentence cX2_maySentence 5 (some .boolean), Cond.fieldLink RX2 9 "LedgerKiln$Court" "running" "[Z", Cond.fieldLink RX2 69 "LedgerKiln$Book" "now" "LLedgerKiln$Sheet;", Cond.methodLink RX2 47 yX2_holdersOf, Cond.instanceMethod yX2_holdersOf]
def wsX6_canStrike_r2 : List Cond := [Cond.selects RX2 yX2_holdersOf yX2_holdersOf, Cond.code yX2_holdersOf cX2_holdersOf 7 (some .int), Cond.fieldLink RX2 35 "LedgerKiln$Book" "days" "[I", Cond.fieldLink RX2 32 "LedgerKiln$Court" "holds" "I", Cond.fieldLink RX2 26 "LedgerKiln$Court" "holdFroms" "[I", Cond.fieldLink RX2 29 "LedgerKiln$Court" "holdTos" "[I", Cond.fieldLink RX2 19 "LedgerKiln$Court" "holdCases" "[I", Cond.fieldLink RX2 23 "LedgerKiln$Court" "holdAccounts" "[I", Cond.methodLink RX2 40 yX0_hasLegFor, Cond.instanceMethod yX0_hasLegFor, Cond.selects RX0 yX0_hasLegFor yX0_hasLegFor, Cond.initialized RX0, Cond.code yX0_hasLegFor cX0_hasLegFor 4 (some .boolean), Cond.fieldLink RX0 21 "LedgerKiln$Book" "legCounts" "[I", Cond.fieldLink RX0 24 "LedgerKiln$Book" "accounts" "[I", Cond.methodLink RX2 72 yX0_isTrueOn, Cond.instanceMethod yX0_isTrueOn, Cond.selects RX0 yX0_isTrueOn yX0_isTrueOn, Cond.code yX0_isTrueOn cX0_isTrueOn 3 (some .boolean), Cond.fieldLink RX0 40 "LedgerKiln$Book" "written" "LLedgerKiln$Sheet;", Cond.methodLink RX0 88 yX4_isLike, Cond.instanceMethod yX4_isLike, Cond.selects RX4 yX4_isLike yX4_isLike, Cond.initialized RX4]
def wsX6_canStrike_r3 : List Cond := [Cond.code yX4_isLike cX4_isLike 4 (some .boolean), Cond.fieldLink RX4 9 "LedgerKiln$Sheet" "filled" "[Z", Cond.methodLink RX4 26 yX4_amountOf, Cond.instanceMethod yX4_amountOf, Cond.selects RX4 yX4_amountOf yX4_amountOf, Cond.code yX4_amountOf cX4_amountOf 3 (some .int), Cond.fieldLink RX4 15 "LedgerKiln$Sheet" "amounts" "[I"]
def wsX6_canStrike : List Cond := .code yX6_canStrike cX6_canStrike 3 (some .boolean) :: ((wsX6_canStrike_r1 ++ (wsX6_canStrike_r2 ++ wsX6_canStrike_r3)) ++ wsX60 ++ wsX20 ++ wsX00 ++ wsX40 ++ (vx_atS RX6 308 "java/lang/IndexOutOfBoundsException" ["java/lang/RuntimeException", "java/lang/Exception"]).filter goodWord)
def wsX7_init_r1 : List Cond := [Cond.methodLink RX7 1 objectInit, Cond.instanceMethod objectInit, Cond.code objectInit ⟨#[0xb1]⟩ 1 none, Cond.arrayClass .int, Cond.fieldLink RX7 7 "LedgerKilnModel" "draftAccounts" "[I", Cond.fieldLink RX7 13 "LedgerKilnModel" "draftAmounts" "[I", Cond.fieldLink RX7 16 "LedgerKilnModel" "days" "[I", Cond.fieldLink RX7 19 "LedgerKilnModel" "texts" "[I", Cond.fieldLink RX7 22 "LedgerKilnModel" "legs" "[I", Cond.fieldLink RX7 25 "LedgerKilnModel" "accounts" "[I", Cond.fieldLink RX7 28 "LedgerKilnModel" "written" "[I", Cond.fieldLink RX7 31 "LedgerKilnModel" "inBook" "[I", Cond.fieldLink RX7 34 "LedgerKilnModel" "states" "[I", Cond.fieldLink RX7 37 "LedgerKilnModel" "reversals" "[I", Cond.arrayClass .boolean, Cond.fieldLink RX7 40 "LedgerKilnModel" "isReversal" "[Z", Cond.fieldLink RX7 44 "LedgerKilnModel" "bases" "[I", Cond.fieldLink RX7 47 "LedgerKilnModel" "firsts" "[I", Cond.fieldLink RX7 50 "LedgerKilnModel" "ends" "[I", Cond.fieldLink RX7 53 "LedgerKilnModel" "isAway" "[Z", Cond.fieldLink RX7 56 "LedgerKilnModel" "isOutside" "[Z", Cond.fieldLink RX7 59 "LedgerKilnModel" "hasPage" "[Z", Cond.fieldLink RX7 62 "LedgerKilnModel" "inCopy" "[I", Cond.fieldLink RX7 65 "LedgerKilnModel" "isClosed" "[Z"]
def wsX7_init_r2 : List Cond := [Cond.fieldLink RX7 68 "LedgerKilnModel" "holders" "[I", Cond.fieldLink RX7 71 "LedgerKilnModel" "heldAccounts" "[I", Cond.fieldLink RX7 74 "LedgerKilnModel" "heldFrom" "[I", Cond.fieldLink RX7 77 "LedgerKilnModel" "heldTo" "[I"]
def wsX7_init : List Cond := .code yX7_init cX7_init 1 none :: ((wsX7_init_r1 ++ wsX7_init_r2) ++ wsX70)
def wsX7_thrown : List Cond := .code yX7_thrown cX7_thrown 1 (some .int) :: ([.fieldLink RX7 80 "LedgerKilnModel" "refusal" "I"] ++ wsX70)
def wsX7_refused : List Cond := .code yX7_refused cX7_refused 2 (some .boolean) :: ([.fieldLink RX7 80 "LedgerKilnModel" "refusal" "I"] ++ wsX70)
def wsX7_fine : List Cond := .code yX7_fine cX7_fine 2 (some .int) :: ([.fieldLink RX7 80 "LedgerKilnModel" "refusal" "I"] ++ wsX70)
def wsX7_in : List Cond := .code yX7_in cX7_in 3 (some .boolean) :: ([])
def wsX7_isAccount : List Cond := .code yX7_isAccount cX7_isAccount 1 (some .boolean) :: ([.methodLink RX7 84 yX7_in, .static yX7_in, .initialized RX7, .code yX7_in cX7_in 3 (some .boolean)])
def wsX7_isPage : List Cond := .code yX7_isPage cX7_isPage 2 (some .boolean) :: ([.fieldLink RX7 88 "LedgerKilnModel" "pages" "I", .methodLink RX7 84 yX7_in, .static yX7_in, .initialized RX7, .code yX7_in cX7_in 3 (some .boolean)] ++ wsX70)
def wsX7_isCopy : List Cond := .code yX7_isCopy cX7_isCopy 2 (some .boolean) :: ([.fieldLink RX7 91 "LedgerKilnModel" "made" "I", .fieldLink RX7 53 "LedgerKilnModel" "isAway" "[Z", .methodLink RX7 84 yX7_in, .static yX7_in, .initialized RX7, .code yX7_in cX7_in 3 (some .boolean)] ++ wsX70)
def wsX7_isCase : List Cond := .code yX7_isCase cX7_isCase 2 (some .boolean) :: ([.fieldLink RX7 94 "LedgerKilnModel" "cases" "I", .methodLink RX7 84 yX7_in, .static yX7_in, .initialized RX7, .code yX7_in cX7_in 3 (some .boolean)] ++ wsX70)
def wsX7_leg : List Cond := .code yX7_leg cX7_leg 4 (some .int) :: ([.fieldLink RX7 101 "LedgerKilnModel" "draftLegs" "I", .fieldLink RX7 7 "LedgerKilnModel" "draftAccounts" "[I", .fieldLink RX7 13 "LedgerKilnModel" "draftAmounts" "[I", .methodLink RX7 84 yX7_in, .static yX7_in, .initialized RX7, .code yX7_in cX7_in 3 (some .boolean), .methodLink RX7 97 yX7_isAccount, .static yX7_isAccount, .code yX7_isAccount cX7_isAccount 1 (some .boolean), .methodLink RX7 104 yX7_refused, .instanceMethod yX7_refused, .selects RX7 yX7_refused yX7_refused, .code yX7_refused cX7_refused 2 (some .boolean), .fieldLink RX7 80 "LedgerKilnModel" "refusal" "I"] ++ wsX70)
def wsX7_wipe : List Cond := .code yX7_wipe cX7_wipe 2 (some .int) :: ([.fieldLink RX7 101 "LedgerKilnModel" "draftLegs" "I", .methodLink RX7 107 yX7_fine, .instanceMethod yX7_fine, .selects RX7 yX7_fine yX7_fine, .initialized RX7, .code yX7_fine cX7_fine 2 (some .int), .fieldLink RX7 80 "LedgerKilnModel" "refusal" "I"] ++ wsX70)
def wsX7_draftSum : List Cond := .code yX7_draftSum cX7_draftSum 3 (some .int) :: ([.fieldLink RX7 101 "LedgerKilnModel" "draftLegs" "I", .fieldLink RX7 13 "LedgerKilnModel" "draftAmounts" "[I"] ++ wsX70)
def wsX7_begin : List Cond := .code yX7_begin cX7_begin 2 none :: ([.fieldLink RX7 16 "LedgerKilnModel" "days" "[I", .fieldLink RX7 88 "LedgerKilnModel" "pages" "I", .fieldLink RX7 111 "LedgerKilnModel" "day" "I", .fieldLink RX7 19 "LedgerKilnModel" "texts" "[I", .fieldLink RX7 22 "LedgerKilnModel" "legs" "[I", .fieldLink RX7 34 "LedgerKilnModel" "states" "[I", .fieldLink RX7 37 "LedgerKilnModel" "reversals" "[I"] ++ wsX70)
def wsX7_put : List Cond := .code yX7_put cX7_put 5 none :: ([.fieldLink RX7 88 "LedgerKilnModel" "pages" "I", .fieldLink RX7 22 "LedgerKilnModel" "legs" "[I", .fieldLink RX7 25 "LedgerKilnModel" "accounts" "[I", .fieldLink RX7 28 "LedgerKilnModel" "written" "[I", .fieldLink RX7 31 "LedgerKilnModel" "inBook" "[I"] ++ wsX70)
def wsX7_write_r1 : List Cond := [Cond.fieldLink RX7 101 "LedgerKilnModel" "draftLegs" "I", Cond.fieldLink RX7 88 "LedgerKilnModel" "pages" "I", Cond.fieldLink RX7 7 "LedgerKilnModel" "draftAccounts" "[I", Cond.fieldLink RX7 13 "LedgerKilnModel" "draftAmounts" "[I", Cond.methodLink RX7 114 yX7_draftSum, Cond.instanceMethod yX7_draftSum, Cond.selects RX7 yX7_draftSum yX7_draftSum, Cond.initialized RX7, Cond.code yX7_draftSum cX7_draftSum 3 (some .int), Cond.methodLink RX7 84 yX7_in, Cond.static yX7_in, Cond.code yX7_in cX7_in 3 (some .boolean), Cond.methodLink RX7 104 yX7_refused, Cond.instanceMethod yX7_refused, Cond.selects RX7 yX7_refused yX7_refused, Cond.code yX7_refused cX7_refused 2 (some .boolean), Cond.fieldLink RX7 80 "LedgerKilnModel" "refusal" "I", Cond.methodLink RX7 118 yX7_begin, Cond.instanceMethod yX7_begin, Cond.selects RX7 yX7_begin yX7_begin, Cond.code yX7_begin cX7_begin 2 none, Cond.fieldLink RX7 16 "LedgerKilnModel" "days" "[I", Cond.fieldLink RX7 111 "LedgerKilnModel" "day" "I", Cond.fieldLink RX7 19 "LedgerKilnModel" "texts" "[I"]
def wsX7_write_r2 : List Cond := [Cond.fieldLink RX7 22 "LedgerKilnModel" "legs" "[I", Cond.fieldLink RX7 34 "LedgerKilnModel" "states" "[I", Cond.fieldLink RX7 37 "LedgerKilnModel" "reversals" "[I", Cond.methodLink RX7 122 yX7_put, Cond.instanceMethod yX7_put, Cond.selects RX7 yX7_put yX7_put, Cond.code yX7_put cX7_put 5 none, Cond.fieldLink RX7 25 "LedgerKilnModel" "accounts" "[I", Cond.fieldLink RX7 28 "LedgerKilnModel" "written" "[I", Cond.fieldLink RX7 31 "LedgerKilnModel" "inBook" "[I"]
def wsX7_write : List Cond := .code yX7_write cX7_write 4 (some .int) :: ((wsX7_write_r1 ++ wsX7_write_r2) ++ wsX70)
def wsX7_isTrueInBook : List Cond := .code yX7_isTrueInBook cX7_isTrueInBook 4 (some .boolean) :: ([.fieldLink RX7 34 "LedgerKilnModel" "states" "[I", .fieldLink RX7 22 "LedgerKilnModel" "legs" "[I", .fieldLink RX7 31 "LedgerKilnModel" "inBook" "[I", .fieldLink RX7 28 "LedgerKilnModel" "written" "[I"] ++ wsX70)
def wsX7_reverse_r1 : List Cond := [Cond.fieldLink RX7 37 "LedgerKilnModel" "reversals" "[I", Cond.fieldLink RX7 40 "LedgerKilnModel" "isReversal" "[Z", Cond.fieldLink RX7 88 "LedgerKilnModel" "pages" "I", Cond.fieldLink RX7 19 "LedgerKilnModel" "texts" "[I", Cond.fieldLink RX7 22 "LedgerKilnModel" "legs" "[I", Cond.fieldLink RX7 25 "LedgerKilnModel" "accounts" "[I", Cond.fieldLink RX7 28 "LedgerKilnModel" "written" "[I", Cond.methodLink RX7 126 yX7_isPage, Cond.instanceMethod yX7_isPage, Cond.selects RX7 yX7_isPage yX7_isPage, Cond.initialized RX7, Cond.code yX7_isPage cX7_isPage 2 (some .boolean), Cond.methodLink RX7 84 yX7_in, Cond.static yX7_in, Cond.code yX7_in cX7_in 3 (some .boolean), Cond.methodLink RX7 129 yX7_isTrueInBook, Cond.instanceMethod yX7_isTrueInBook, Cond.selects RX7 yX7_isTrueInBook yX7_isTrueInBook, Cond.code yX7_isTrueInBook cX7_isTrueInBook 4 (some .boolean), Cond.fieldLink RX7 34 "LedgerKilnModel" "states" "[I", Cond.fieldLink RX7 31 "LedgerKilnModel" "inBook" "[I", Cond.methodLink RX7 104 yX7_refused, Cond.instanceMethod yX7_refused, Cond.selects RX7 yX7_refused yX7_refused]
def wsX7_reverse_r2 : List Cond := [Cond.code yX7_refused cX7_refused 2 (some .boolean), Cond.fieldLink RX7 80 "LedgerKilnModel" "refusal" "I", Cond.methodLink RX7 118 yX7_begin, Cond.instanceMethod yX7_begin, Cond.selects RX7 yX7_begin yX7_begin, Cond.code yX7_begin cX7_begin 2 none, Cond.fieldLink RX7 16 "LedgerKilnModel" "days" "[I", Cond.fieldLink RX7 111 "LedgerKilnModel" "day" "I", Cond.methodLink RX7 122 yX7_put, Cond.instanceMethod yX7_put, Cond.selects RX7 yX7_put yX7_put, Cond.code yX7_put cX7_put 5 none]
def wsX7_reverse : List Cond := .code yX7_reverse cX7_reverse 5 (some .int) :: ((wsX7_reverse_r1 ++ wsX7_reverse_r2) ++ wsX70)
def wsX7_pass : List Cond := .code yX7_pass cX7_pass 2 (some .int) :: ([.fieldLink RX7 111 "LedgerKilnModel" "day" "I", .methodLink RX7 84 yX7_in, .static yX7_in, .initialized RX7, .code yX7_in cX7_in 3 (some .boolean), .methodLink RX7 104 yX7_refused, .instanceMethod yX7_refused, .selects RX7 yX7_refused yX7_refused, .code yX7_refused cX7_refused 2 (some .boolean), .fieldLink RX7 80 "LedgerKilnModel" "refusal" "I"] ++ wsX70)
def wsX7_burn : List Cond := .code yX7_burn cX7_burn 6 (some .int) :: ([.fieldLink RX7 34 "LedgerKilnModel" "states" "[I", .methodLink RX7 126 yX7_isPage, .instanceMethod yX7_isPage, .selects RX7 yX7_isPage yX7_isPage, .initialized RX7, .code yX7_isPage cX7_isPage 2 (some .boolean), .fieldLink RX7 88 "LedgerKilnModel" "pages" "I", .methodLink RX7 84 yX7_in, .static yX7_in, .code yX7_in cX7_in 3 (some .boolean), .methodLink RX7 104 yX7_refused, .instanceMethod yX7_refused, .selects RX7 yX7_refused yX7_refused, .code yX7_refused cX7_refused 2 (some .boolean), .fieldLink RX7 80 "LedgerKilnModel" "refusal" "I"] ++ wsX70)
def wsX7_alter : List Cond := .code yX7_alter cX7_alter 7 (some .int) :: ([.fieldLink RX7 34 "LedgerKilnModel" "states" "[I", .fieldLink RX7 22 "LedgerKilnModel" "legs" "[I", .fieldLink RX7 31 "LedgerKilnModel" "inBook" "[I", .methodLink RX7 84 yX7_in, .static yX7_in, .initialized RX7, .code yX7_in cX7_in 3 (some .boolean), .methodLink RX7 126 yX7_isPage, .instanceMethod yX7_isPage, .selects RX7 yX7_isPage yX7_isPage, .code yX7_isPage cX7_isPage 2 (some .boolean), .fieldLink RX7 88 "LedgerKilnModel" "pages" "I", .methodLink RX7 104 yX7_refused, .instanceMethod yX7_refused, .selects RX7 yX7_refused yX7_refused, .code yX7_refused cX7_refused 2 (some .boolean), .fieldLink RX7 80 "LedgerKilnModel" "refusal" "I"] ++ wsX70)
def wsX7_burnt : List Cond := .code yX7_burnt cX7_burnt 3 (some .int) :: ([.fieldLink RX7 88 "LedgerKilnModel" "pages" "I", .fieldLink RX7 34 "LedgerKilnModel" "states" "[I"] ++ wsX70)
def wsX7_makeCopy : List Cond := .code yX7_makeCopy cX7_makeCopy 6 (some .int) :: ([.fieldLink RX7 91 "LedgerKilnModel" "made" "I", .fieldLink RX7 44 "LedgerKilnModel" "bases" "[I", .fieldLink RX7 47 "LedgerKilnModel" "firsts" "[I", .fieldLink RX7 50 "LedgerKilnModel" "ends" "[I", .fieldLink RX7 88 "LedgerKilnModel" "pages" "I", .fieldLink RX7 53 "LedgerKilnModel" "isAway" "[Z", .fieldLink RX7 56 "LedgerKilnModel" "isOutside" "[Z", .fieldLink RX7 59 "LedgerKilnModel" "hasPage" "[Z", .fieldLink RX7 34 "LedgerKilnModel" "states" "[I", .fieldLink RX7 62 "LedgerKilnModel" "inCopy" "[I", .fieldLink RX7 31 "LedgerKilnModel" "inBook" "[I"] ++ wsX70)
def wsX7_copy_r1 : List Cond := [Cond.fieldLink RX7 91 "LedgerKilnModel" "made" "I", Cond.methodLink RX7 132 yX7_burnt, Cond.instanceMethod yX7_burnt, Cond.selects RX7 yX7_burnt yX7_burnt, Cond.initialized RX7, Cond.code yX7_burnt cX7_burnt 3 (some .int), Cond.fieldLink RX7 88 "LedgerKilnModel" "pages" "I", Cond.fieldLink RX7 34 "LedgerKilnModel" "states" "[I", Cond.methodLink RX7 104 yX7_refused, Cond.instanceMethod yX7_refused, Cond.selects RX7 yX7_refused yX7_refused, Cond.code yX7_refused cX7_refused 2 (some .boolean), Cond.fieldLink RX7 80 "LedgerKilnModel" "refusal" "I", Cond.methodLink RX7 135 yX7_makeCopy, Cond.instanceMethod yX7_makeCopy, Cond.selects RX7 yX7_makeCopy yX7_makeCopy, Cond.code yX7_makeCopy cX7_makeCopy 6 (some .int), Cond.fieldLink RX7 44 "LedgerKilnModel" "bases" "[I", Cond.fieldLink RX7 47 "LedgerKilnModel" "firsts" "[I", Cond.fieldLink RX7 50 "LedgerKilnModel" "ends" "[I", Cond.fieldLink RX7 53 "LedgerKilnModel" "isAway" "[Z", Cond.fieldLink RX7 56 "LedgerKilnModel" "isOutside" "[Z", Cond.fieldLink RX7 59 "LedgerKilnModel" "hasPage" "[Z", Cond.fieldLink RX7 62 "LedgerKilnModel" "inCopy" "[I"]
def wsX7_copy_r2 : List Cond := [Cond.fieldLink RX7 31 "LedgerKilnModel" "inBook" "[I"]
def wsX7_copy : List Cond := .code yX7_copy cX7_copy 1 (some .int) :: ((wsX7_copy_r1 ++ wsX7_copy_r2) ++ wsX70)
def wsX7_copyFrom_r1 : List Cond := [Cond.fieldLink RX7 91 "LedgerKilnModel" "made" "I", Cond.fieldLink RX7 50 "LedgerKilnModel" "ends" "[I", Cond.methodLink RX7 139 yX7_isCopy, Cond.instanceMethod yX7_isCopy, Cond.selects RX7 yX7_isCopy yX7_isCopy, Cond.initialized RX7, Cond.code yX7_isCopy cX7_isCopy 2 (some .boolean), Cond.fieldLink RX7 53 "LedgerKilnModel" "isAway" "[Z", Cond.methodLink RX7 84 yX7_in, Cond.static yX7_in, Cond.code yX7_in cX7_in 3 (some .boolean), Cond.methodLink RX7 132 yX7_burnt, Cond.instanceMethod yX7_burnt, Cond.selects RX7 yX7_burnt yX7_burnt, Cond.code yX7_burnt cX7_burnt 3 (some .int), Cond.fieldLink RX7 88 "LedgerKilnModel" "pages" "I", Cond.fieldLink RX7 34 "LedgerKilnModel" "states" "[I", Cond.methodLink RX7 104 yX7_refused, Cond.instanceMethod yX7_refused, Cond.selects RX7 yX7_refused yX7_refused, Cond.code yX7_refused cX7_refused 2 (some .boolean), Cond.fieldLink RX7 80 "LedgerKilnModel" "refusal" "I", Cond.methodLink RX7 135 yX7_makeCopy, Cond.instanceMethod yX7_makeCopy]
def wsX7_copyFrom_r2 : List Cond := [Cond.selects RX7 yX7_makeCopy yX7_makeCopy, Cond.code yX7_makeCopy cX7_makeCopy 6 (some .int), Cond.fieldLink RX7 44 "LedgerKilnModel" "bases" "[I", Cond.fieldLink RX7 47 "LedgerKilnModel" "firsts" "[I", Cond.fieldLink RX7 56 "LedgerKilnModel" "isOutside" "[Z", Cond.fieldLink RX7 59 "LedgerKilnModel" "hasPage" "[Z", Cond.fieldLink RX7 62 "LedgerKilnModel" "inCopy" "[I", Cond.fieldLink RX7 31 "LedgerKilnModel" "inBook" "[I"]
def wsX7_copyFrom : List Cond := .code yX7_copyFrom cX7_copyFrom 2 (some .int) :: ((wsX7_copyFrom_r1 ++ wsX7_copyFrom_r2) ++ wsX70)
def wsX7_has : List Cond := .code yX7_has cX7_has 3 (some .boolean) :: ([.fieldLink RX7 47 "LedgerKilnModel" "firsts" "[I", .fieldLink RX7 50 "LedgerKilnModel" "ends" "[I"] ++ wsX70)
def wsX7_standsIn : List Cond := .code yX7_standsIn cX7_standsIn 3 (some .boolean) :: ([.fieldLink RX7 59 "LedgerKilnModel" "hasPage" "[Z", .methodLink RX7 142 yX7_has, .instanceMethod yX7_has, .selects RX7 yX7_has yX7_has, .initialized RX7, .code yX7_has cX7_has 3 (some .boolean), .fieldLink RX7 47 "LedgerKilnModel" "firsts" "[I", .fieldLink RX7 50 "LedgerKilnModel" "ends" "[I"] ++ wsX70)
def wsX7_carry_r1 : List Cond := [Cond.fieldLink RX7 88 "LedgerKilnModel" "pages" "I", Cond.fieldLink RX7 34 "LedgerKilnModel" "states" "[I", Cond.fieldLink RX7 59 "LedgerKilnModel" "hasPage" "[Z", Cond.fieldLink RX7 56 "LedgerKilnModel" "isOutside" "[Z", Cond.methodLink RX7 139 yX7_isCopy, Cond.instanceMethod yX7_isCopy, Cond.selects RX7 yX7_isCopy yX7_isCopy, Cond.initialized RX7, Cond.code yX7_isCopy cX7_isCopy 2 (some .boolean), Cond.fieldLink RX7 91 "LedgerKilnModel" "made" "I", Cond.fieldLink RX7 53 "LedgerKilnModel" "isAway" "[Z", Cond.methodLink RX7 84 yX7_in, Cond.static yX7_in, Cond.code yX7_in cX7_in 3 (some .boolean), Cond.methodLink RX7 104 yX7_refused, Cond.instanceMethod yX7_refused, Cond.selects RX7 yX7_refused yX7_refused, Cond.code yX7_refused cX7_refused 2 (some .boolean), Cond.fieldLink RX7 80 "LedgerKilnModel" "refusal" "I", Cond.methodLink RX7 146 yX7_standsIn, Cond.instanceMethod yX7_standsIn, Cond.selects RX7 yX7_standsIn yX7_standsIn, Cond.code yX7_standsIn cX7_standsIn 3 (some .boolean), Cond.methodLink RX7 142 yX7_has]
def wsX7_carry_r2 : List Cond := [Cond.instanceMethod yX7_has, Cond.selects RX7 yX7_has yX7_has, Cond.code yX7_has cX7_has 3 (some .boolean), Cond.fieldLink RX7 47 "LedgerKilnModel" "firsts" "[I", Cond.fieldLink RX7 50 "LedgerKilnModel" "ends" "[I"]
def wsX7_carry : List Cond := .code yX7_carry cX7_carry 5 (some .int) :: ((wsX7_carry_r1 ++ wsX7_carry_r2) ++ wsX70)
def wsX7_areBoth : List Cond := .code yX7_areBoth cX7_areBoth 3 (some .boolean) :: ([.methodLink RX7 139 yX7_isCopy, .instanceMethod yX7_isCopy, .selects RX7 yX7_isCopy yX7_isCopy, .initialized RX7, .code yX7_isCopy cX7_isCopy 2 (some .boolean), .fieldLink RX7 91 "LedgerKilnModel" "made" "I", .fieldLink RX7 53 "LedgerKilnModel" "isAway" "[Z", .methodLink RX7 84 yX7_in, .static yX7_in, .code yX7_in cX7_in 3 (some .boolean), .methodLink RX7 126 yX7_isPage, .instanceMethod yX7_isPage, .selects RX7 yX7_isPage yX7_isPage, .code yX7_isPage cX7_isPage 2 (some .boolean), .fieldLink RX7 88 "LedgerKilnModel" "pages" "I", .methodLink RX7 142 yX7_has, .instanceMethod yX7_has, .selects RX7 yX7_has yX7_has, .code yX7_has cX7_has 3 (some .boolean), .fieldLink RX7 47 "LedgerKilnModel" "firsts" "[I", .fieldLink RX7 50 "LedgerKilnModel" "ends" "[I"] ++ wsX70)
def wsX7_rot_r1 : List Cond := [Cond.fieldLink RX7 59 "LedgerKilnModel" "hasPage" "[Z", Cond.methodLink RX7 149 yX7_areBoth, Cond.instanceMethod yX7_areBoth, Cond.selects RX7 yX7_areBoth yX7_areBoth, Cond.initialized RX7, Cond.code yX7_areBoth cX7_areBoth 3 (some .boolean), Cond.methodLink RX7 139 yX7_isCopy, Cond.instanceMethod yX7_isCopy, Cond.selects RX7 yX7_isCopy yX7_isCopy, Cond.code yX7_isCopy cX7_isCopy 2 (some .boolean), Cond.fieldLink RX7 91 "LedgerKilnModel" "made" "I", Cond.fieldLink RX7 53 "LedgerKilnModel" "isAway" "[Z", Cond.methodLink RX7 84 yX7_in, Cond.static yX7_in, Cond.code yX7_in cX7_in 3 (some .boolean), Cond.methodLink RX7 126 yX7_isPage, Cond.instanceMethod yX7_isPage, Cond.selects RX7 yX7_isPage yX7_isPage, Cond.code yX7_isPage cX7_isPage 2 (some .boolean), Cond.fieldLink RX7 88 "LedgerKilnModel" "pages" "I", Cond.methodLink RX7 142 yX7_has, Cond.instanceMethod yX7_has, Cond.selects RX7 yX7_has yX7_has, Cond.code yX7_has cX7_has 3 (some .boolean)]
def wsX7_rot_r2 : List Cond := [Cond.fieldLink RX7 47 "LedgerKilnModel" "firsts" "[I", Cond.fieldLink RX7 50 "LedgerKilnModel" "ends" "[I", Cond.methodLink RX7 104 yX7_refused, Cond.instanceMethod yX7_refused, Cond.selects RX7 yX7_refused yX7_refused, Cond.code yX7_refused cX7_refused 2 (some .boolean), Cond.fieldLink RX7 80 "LedgerKilnModel" "refusal" "I"]
def wsX7_rot : List Cond := .code yX7_rot cX7_rot 4 (some .boolean) :: ((wsX7_rot_r1 ++ wsX7_rot_r2) ++ wsX70)
def wsX7_isBase : List Cond := .code yX7_isBase cX7_isBase 4 (some .boolean) :: ([.fieldLink RX7 91 "LedgerKilnModel" "made" "I", .fieldLink RX7 53 "LedgerKilnModel" "isAway" "[Z", .fieldLink RX7 44 "LedgerKilnModel" "bases" "[I"] ++ wsX70)
def wsX7_reaches : List Cond := .code yX7_reaches cX7_reaches 6 (some .boolean) :: ([.fieldLink RX7 167 "LedgerKilnModel" "holds" "I", .fieldLink RX7 22 "LedgerKilnModel" "legs" "[I", .fieldLink RX7 68 "LedgerKilnModel" "holders" "[I", .fieldLink RX7 16 "LedgerKilnModel" "days" "[I", .fieldLink RX7 74 "LedgerKilnModel" "heldFrom" "[I", .fieldLink RX7 77 "LedgerKilnModel" "heldTo" "[I", .fieldLink RX7 25 "LedgerKilnModel" "accounts" "[I", .fieldLink RX7 71 "LedgerKilnModel" "heldAccounts" "[I", .methodLink RX7 84 yX7_in, .static yX7_in, .initialized RX7, .code yX7_in cX7_in 3 (some .boolean)] ++ wsX70)
def wsX7_holdersOf : List Cond := .code yX7_holdersOf cX7_holdersOf 4 (some .int) :: ([.fieldLink RX7 94 "LedgerKilnModel" "cases" "I", .fieldLink RX7 65 "LedgerKilnModel" "isClosed" "[Z", .methodLink RX7 170 yX7_reaches, .instanceMethod yX7_reaches, .selects RX7 yX7_reaches yX7_reaches, .initialized RX7, .code yX7_reaches cX7_reaches 6 (some .boolean), .fieldLink RX7 167 "LedgerKilnModel" "holds" "I", .fieldLink RX7 22 "LedgerKilnModel" "legs" "[I", .fieldLink RX7 68 "LedgerKilnModel" "holders" "[I", .fieldLink RX7 16 "LedgerKilnModel" "days" "[I", .fieldLink RX7 74 "LedgerKilnModel" "heldFrom" "[I", .fieldLink RX7 77 "LedgerKilnModel" "heldTo" "[I", .fieldLink RX7 25 "LedgerKilnModel" "accounts" "[I", .fieldLink RX7 71 "LedgerKilnModel" "heldAccounts" "[I", .methodLink RX7 84 yX7_in, .static yX7_in, .code yX7_in cX7_in 3 (some .boolean)] ++ wsX70)
def wsX7_copiesThere : List Cond := .code yX7_copiesThere cX7_copiesThere 3 (some .int) :: ([.fieldLink RX7 91 "LedgerKilnModel" "made" "I", .fieldLink RX7 53 "LedgerKilnModel" "isAway" "[Z"] ++ wsX70)
def wsX7_throwAway_r1 : List Cond := [Cond.fieldLink RX7 88 "LedgerKilnModel" "pages" "I", Cond.fieldLink RX7 53 "LedgerKilnModel" "isAway" "[Z", Cond.methodLink RX7 139 yX7_isCopy, Cond.instanceMethod yX7_isCopy, Cond.selects RX7 yX7_isCopy yX7_isCopy, Cond.initialized RX7, Cond.code yX7_isCopy cX7_isCopy 2 (some .boolean), Cond.fieldLink RX7 91 "LedgerKilnModel" "made" "I", Cond.methodLink RX7 84 yX7_in, Cond.static yX7_in, Cond.code yX7_in cX7_in 3 (some .boolean), Cond.methodLink RX7 152 yX7_isBase, Cond.instanceMethod yX7_isBase, Cond.selects RX7 yX7_isBase yX7_isBase, Cond.code yX7_isBase cX7_isBase 4 (some .boolean), Cond.fieldLink RX7 44 "LedgerKilnModel" "bases" "[I", Cond.methodLink RX7 146 yX7_standsIn, Cond.instanceMethod yX7_standsIn, Cond.selects RX7 yX7_standsIn yX7_standsIn, Cond.code yX7_standsIn cX7_standsIn 3 (some .boolean), Cond.fieldLink RX7 59 "LedgerKilnModel" "hasPage" "[Z", Cond.methodLink RX7 142 yX7_has, Cond.instanceMethod yX7_has, Cond.selects RX7 yX7_has yX7_has]
def wsX7_throwAway_r2 : List Cond := [Cond.code yX7_has cX7_has 3 (some .boolean), Cond.fieldLink RX7 47 "LedgerKilnModel" "firsts" "[I", Cond.fieldLink RX7 50 "LedgerKilnModel" "ends" "[I", Cond.methodLink RX7 155 yX7_holdersOf, Cond.instanceMethod yX7_holdersOf, Cond.selects RX7 yX7_holdersOf yX7_holdersOf, Cond.code yX7_holdersOf cX7_holdersOf 4 (some .int), Cond.fieldLink RX7 94 "LedgerKilnModel" "cases" "I", Cond.fieldLink RX7 65 "LedgerKilnModel" "isClosed" "[Z", Cond.methodLink RX7 170 yX7_reaches, Cond.instanceMethod yX7_reaches, Cond.selects RX7 yX7_reaches yX7_reaches, Cond.code yX7_reaches cX7_reaches 6 (some .boolean), Cond.fieldLink RX7 167 "LedgerKilnModel" "holds" "I", Cond.fieldLink RX7 22 "LedgerKilnModel" "legs" "[I", Cond.fieldLink RX7 68 "LedgerKilnModel" "holders" "[I", Cond.fieldLink RX7 16 "LedgerKilnModel" "days" "[I", Cond.fieldLink RX7 74 "LedgerKilnModel" "heldFrom" "[I", Cond.fieldLink RX7 77 "LedgerKilnModel" "heldTo" "[I", Cond.fieldLink RX7 25 "LedgerKilnModel" "accounts" "[I", Cond.fieldLink RX7 71 "LedgerKilnModel" "heldAccounts" "[I", Cond.methodLink RX7 104 yX7_refused, Cond.instanceMethod yX7_refused, Cond.selects RX7 yX7_refused yX7_refused]
def wsX7_throwAway_r3 : List Cond := [Cond.code yX7_refused cX7_refused 2 (some .boolean), Cond.fieldLink RX7 80 "LedgerKilnModel" "refusal" "I", Cond.methodLink RX7 158 yX7_copiesThere, Cond.instanceMethod yX7_copiesThere, Cond.selects RX7 yX7_copiesThere yX7_copiesThere, Cond.code yX7_copiesThere cX7_copiesThere 3 (some .int)]
def wsX7_throwAway : List Cond := .code yX7_throwAway cX7_throwAway 4 (some .int) :: ((wsX7_throwAway_r1 ++ (wsX7_throwAway_r2 ++ wsX7_throwAway_r3)) ++ wsX70)
def wsX7_isWhole : List Cond := .code yX7_isWhole cX7_isWhole 4 (some .boolean) :: ([.fieldLink RX7 53 "LedgerKilnModel" "isAway" "[Z", .fieldLink RX7 56 "LedgerKilnModel" "isOutside" "[Z", .fieldLink RX7 44 "LedgerKilnModel" "bases" "[I"] ++ wsX70)
def wsX7_isTrueIn : List Cond := .code yX7_isTrueIn cX7_isTrueIn 5 (some .boolean) :: ([.fieldLink RX7 22 "LedgerKilnModel" "legs" "[I", .fieldLink RX7 62 "LedgerKilnModel" "inCopy" "[I", .fieldLink RX7 28 "LedgerKilnModel" "written" "[I", .methodLink RX7 146 yX7_standsIn, .instanceMethod yX7_standsIn, .selects RX7 yX7_standsIn yX7_standsIn, .initialized RX7, .code yX7_standsIn cX7_standsIn 3 (some .boolean), .fieldLink RX7 59 "LedgerKilnModel" "hasPage" "[Z", .methodLink RX7 142 yX7_has, .instanceMethod yX7_has, .selects RX7 yX7_has yX7_has, .code yX7_has cX7_has 3 (some .boolean), .fieldLink RX7 47 "LedgerKilnModel" "firsts" "[I", .fieldLink RX7 50 "LedgerKilnModel" "ends" "[I"] ++ wsX70)
def wsX7_restore_r1 : List Cond := [Cond.fieldLink RX7 88 "LedgerKilnModel" "pages" "I", Cond.fieldLink RX7 34 "LedgerKilnModel" "states" "[I", Cond.fieldLink RX7 31 "LedgerKilnModel" "inBook" "[I", Cond.fieldLink RX7 28 "LedgerKilnModel" "written" "[I", Cond.fieldLink RX7 44 "LedgerKilnModel" "bases" "[I", Cond.methodLink RX7 139 yX7_isCopy, Cond.instanceMethod yX7_isCopy, Cond.selects RX7 yX7_isCopy yX7_isCopy, Cond.initialized RX7, Cond.code yX7_isCopy cX7_isCopy 2 (some .boolean), Cond.fieldLink RX7 91 "LedgerKilnModel" "made" "I", Cond.fieldLink RX7 53 "LedgerKilnModel" "isAway" "[Z", Cond.methodLink RX7 84 yX7_in, Cond.static yX7_in, Cond.code yX7_in cX7_in 3 (some .boolean), Cond.methodLink RX7 161 yX7_isWhole, Cond.instanceMethod yX7_isWhole, Cond.selects RX7 yX7_isWhole yX7_isWhole, Cond.code yX7_isWhole cX7_isWhole 4 (some .boolean), Cond.fieldLink RX7 56 "LedgerKilnModel" "isOutside" "[Z", Cond.methodLink RX7 104 yX7_refused, Cond.instanceMethod yX7_refused, Cond.selects RX7 yX7_refused yX7_refused, Cond.code yX7_refused cX7_refused 2 (some .boolean)]
def wsX7_restore_r2 : List Cond := [Cond.fieldLink RX7 80 "LedgerKilnModel" "refusal" "I", Cond.methodLink RX7 129 yX7_isTrueInBook, Cond.instanceMethod yX7_isTrueInBook, Cond.selects RX7 yX7_isTrueInBook yX7_isTrueInBook, Cond.code yX7_isTrueInBook cX7_isTrueInBook 4 (some .boolean), Cond.fieldLink RX7 22 "LedgerKilnModel" "legs" "[I", Cond.methodLink RX7 164 yX7_isTrueIn, Cond.instanceMethod yX7_isTrueIn, Cond.selects RX7 yX7_isTrueIn yX7_isTrueIn, Cond.code yX7_isTrueIn cX7_isTrueIn 5 (some .boolean), Cond.fieldLink RX7 62 "LedgerKilnModel" "inCopy" "[I", Cond.methodLink RX7 146 yX7_standsIn, Cond.instanceMethod yX7_standsIn, Cond.selects RX7 yX7_standsIn yX7_standsIn, Cond.code yX7_standsIn cX7_standsIn 3 (some .boolean), Cond.fieldLink RX7 59 "LedgerKilnModel" "hasPage" "[Z", Cond.methodLink RX7 142 yX7_has, Cond.instanceMethod yX7_has, Cond.selects RX7 yX7_has yX7_has, Cond.code yX7_has cX7_has 3 (some .boolean), Cond.fieldLink RX7 47 "LedgerKilnModel" "firsts" "[I", Cond.fieldLink RX7 50 "LedgerKilnModel" "ends" "[I"]
def wsX7_restore : List Cond := .code yX7_restore cX7_restore 6 (some .int) :: ((wsX7_restore_r1 ++ wsX7_restore_r2) ++ wsX70)
def wsX7_open : List Cond := .code yX7_open cX7_open 1 (some .int) :: ([.fieldLink RX7 94 "LedgerKilnModel" "cases" "I", .fieldLink RX7 65 "LedgerKilnModel" "isClosed" "[Z", .methodLink RX7 104 yX7_refused, .instanceMethod yX7_refused, .selects RX7 yX7_refused yX7_refused, .initialized RX7, .code yX7_refused cX7_refused 2 (some .boolean), .fieldLink RX7 80 "LedgerKilnModel" "refusal" "I"] ++ wsX70)
def wsX7_close_r1 : List Cond := [Cond.fieldLink RX7 65 "LedgerKilnModel" "isClosed" "[Z", Cond.fieldLink RX7 88 "LedgerKilnModel" "pages" "I", Cond.methodLink RX7 173 yX7_isCase, Cond.instanceMethod yX7_isCase, Cond.selects RX7 yX7_isCase yX7_isCase, Cond.initialized RX7, Cond.code yX7_isCase cX7_isCase 2 (some .boolean), Cond.fieldLink RX7 94 "LedgerKilnModel" "cases" "I", Cond.methodLink RX7 84 yX7_in, Cond.static yX7_in, Cond.code yX7_in cX7_in 3 (some .boolean), Cond.methodLink RX7 104 yX7_refused, Cond.instanceMethod yX7_refused, Cond.selects RX7 yX7_refused yX7_refused, Cond.code yX7_refused cX7_refused 2 (some .boolean), Cond.fieldLink RX7 80 "LedgerKilnModel" "refusal" "I", Cond.methodLink RX7 155 yX7_holdersOf, Cond.instanceMethod yX7_holdersOf, Cond.selects RX7 yX7_holdersOf yX7_holdersOf, Cond.code yX7_holdersOf cX7_holdersOf 4 (some .int), Cond.methodLink RX7 170 yX7_reaches, Cond.instanceMethod yX7_reaches, Cond.selects RX7 yX7_reaches yX7_reaches, Cond.code yX7_reaches cX7_reaches 6 (some .boolean)]
def wsX7_close_r2 : List Cond := [Cond.fieldLink RX7 167 "LedgerKilnModel" "holds" "I", Cond.fieldLink RX7 22 "LedgerKilnModel" "legs" "[I", Cond.fieldLink RX7 68 "LedgerKilnModel" "holders" "[I", Cond.fieldLink RX7 16 "LedgerKilnModel" "days" "[I", Cond.fieldLink RX7 74 "LedgerKilnModel" "heldFrom" "[I", Cond.fieldLink RX7 77 "LedgerKilnModel" "heldTo" "[I", Cond.fieldLink RX7 25 "LedgerKilnModel" "accounts" "[I", Cond.fieldLink RX7 71 "LedgerKilnModel" "heldAccounts" "[I"]
def wsX7_close : List Cond := .code yX7_close cX7_close 4 (some .int) :: ((wsX7_close_r1 ++ wsX7_close_r2) ++ wsX70)
def wsX7_hold_r1 : List Cond := [Cond.fieldLink RX7 65 "LedgerKilnModel" "isClosed" "[Z", Cond.fieldLink RX7 167 "LedgerKilnModel" "holds" "I", Cond.fieldLink RX7 68 "LedgerKilnModel" "holders" "[I", Cond.fieldLink RX7 71 "LedgerKilnModel" "heldAccounts" "[I", Cond.fieldLink RX7 74 "LedgerKilnModel" "heldFrom" "[I", Cond.fieldLink RX7 77 "LedgerKilnModel" "heldTo" "[I", Cond.fieldLink RX7 88 "LedgerKilnModel" "pages" "I", Cond.methodLink RX7 173 yX7_isCase, Cond.instanceMethod yX7_isCase, Cond.selects RX7 yX7_isCase yX7_isCase, Cond.initialized RX7, Cond.code yX7_isCase cX7_isCase 2 (some .boolean), Cond.fieldLink RX7 94 "LedgerKilnModel" "cases" "I", Cond.methodLink RX7 84 yX7_in, Cond.static yX7_in, Cond.code yX7_in cX7_in 3 (some .boolean), Cond.methodLink RX7 97 yX7_isAccount, Cond.static yX7_isAccount, Cond.code yX7_isAccount cX7_isAccount 1 (some .boolean), Cond.methodLink RX7 104 yX7_refused, Cond.instanceMethod yX7_refused, Cond.selects RX7 yX7_refused yX7_refused, Cond.code yX7_refused cX7_refused 2 (some .boolean), Cond.fieldLink RX7 80 "LedgerKilnModel" "refusal" "I"]
def wsX7_hold_r2 : List Cond := [Cond.methodLink RX7 170 yX7_reaches, Cond.instanceMethod yX7_reaches, Cond.selects RX7 yX7_reaches yX7_reaches, Cond.code yX7_reaches cX7_reaches 6 (some .boolean), Cond.fieldLink RX7 22 "LedgerKilnModel" "legs" "[I", Cond.fieldLink RX7 16 "LedgerKilnModel" "days" "[I", Cond.fieldLink RX7 25 "LedgerKilnModel" "accounts" "[I"]
def wsX7_hold : List Cond := .code yX7_hold cX7_hold 10 (some .int) :: ((wsX7_hold_r1 ++ wsX7_hold_r2) ++ wsX70)
def wsX7_may_r1 : List Cond := [Cond.fieldLink RX7 65 "LedgerKilnModel" "isClosed" "[Z", Cond.methodLink RX7 129 yX7_isTrueInBook, Cond.instanceMethod yX7_isTrueInBook, Cond.selects RX7 yX7_isTrueInBook yX7_isTrueInBook, Cond.initialized RX7, Cond.code yX7_isTrueInBook cX7_isTrueInBook 4 (some .boolean), Cond.fieldLink RX7 34 "LedgerKilnModel" "states" "[I", Cond.fieldLink RX7 22 "LedgerKilnModel" "legs" "[I", Cond.fieldLink RX7 31 "LedgerKilnModel" "inBook" "[I", Cond.fieldLink RX7 28 "LedgerKilnModel" "written" "[I", Cond.methodLink RX7 155 yX7_holdersOf, Cond.instanceMethod yX7_holdersOf, Cond.selects RX7 yX7_holdersOf yX7_holdersOf, Cond.code yX7_holdersOf cX7_holdersOf 4 (some .int), Cond.fieldLink RX7 94 "LedgerKilnModel" "cases" "I", Cond.methodLink RX7 170 yX7_reaches, Cond.instanceMethod yX7_reaches, Cond.selects RX7 yX7_reaches yX7_reaches, Cond.code yX7_reaches cX7_reaches 6 (some .boolean), Cond.fieldLink RX7 167 "LedgerKilnModel" "holds" "I", Cond.fieldLink RX7 68 "LedgerKilnModel" "holders" "[I", Cond.fieldLink RX7 16 "LedgerKilnModel" "days" "[I", Cond.fieldLink RX7 74 "LedgerKilnModel" "heldFrom" "[I", Cond.fieldLink RX7 77 "LedgerKilnModel" "heldTo" "[I"]
def wsX7_may_r2 : List Cond := [Cond.fieldLink RX7 25 "LedgerKilnModel" "accounts" "[I", Cond.fieldLink RX7 71 "LedgerKilnModel" "heldAccounts" "[I", Cond.methodLink RX7 84 yX7_in, Cond.static yX7_in, Cond.code yX7_in cX7_in 3 (some .boolean)]
def wsX7_may : List Cond := .code yX7_may cX7_may 3 (some .boolean) :: ((wsX7_may_r1 ++ wsX7_may_r2) ++ wsX70)
def wsX7_strike_r1 : List Cond := [Cond.fieldLink RX7 34 "LedgerKilnModel" "states" "[I", Cond.fieldLink RX7 91 "LedgerKilnModel" "made" "I", Cond.fieldLink RX7 56 "LedgerKilnModel" "isOutside" "[Z", Cond.fieldLink RX7 59 "LedgerKilnModel" "hasPage" "[Z", Cond.fieldLink RX7 53 "LedgerKilnModel" "isAway" "[Z", Cond.methodLink RX7 173 yX7_isCase, Cond.instanceMethod yX7_isCase, Cond.selects RX7 yX7_isCase yX7_isCase, Cond.initialized RX7, Cond.code yX7_isCase cX7_isCase 2 (some .boolean), Cond.fieldLink RX7 94 "LedgerKilnModel" "cases" "I", Cond.methodLink RX7 84 yX7_in, Cond.static yX7_in, Cond.code yX7_in cX7_in 3 (some .boolean), Cond.methodLink RX7 126 yX7_isPage, Cond.instanceMethod yX7_isPage, Cond.selects RX7 yX7_isPage yX7_isPage, Cond.code yX7_isPage cX7_isPage 2 (some .boolean), Cond.fieldLink RX7 88 "LedgerKilnModel" "pages" "I", Cond.methodLink RX7 176 yX7_may, Cond.instanceMethod yX7_may, Cond.selects RX7 yX7_may yX7_may, Cond.code yX7_may cX7_may 3 (some .boolean), Cond.fieldLink RX7 65 "LedgerKilnModel" "isClosed" "[Z"]
def wsX7_strike_r2 : List Cond := [Cond.methodLink RX7 129 yX7_isTrueInBook, Cond.instanceMethod yX7_isTrueInBook, Cond.selects RX7 yX7_isTrueInBook yX7_isTrueInBook, Cond.code yX7_isTrueInBook cX7_isTrueInBook 4 (some .boolean), Cond.fieldLink RX7 22 "LedgerKilnModel" "legs" "[I", Cond.fieldLink RX7 31 "LedgerKilnModel" "inBook" "[I", Cond.fieldLink RX7 28 "LedgerKilnModel" "written" "[I", Cond.methodLink RX7 155 yX7_holdersOf, Cond.instanceMethod yX7_holdersOf, Cond.selects RX7 yX7_holdersOf yX7_holdersOf, Cond.code yX7_holdersOf cX7_holdersOf 4 (some .int), Cond.methodLink RX7 170 yX7_reaches, Cond.instanceMethod yX7_reaches, Cond.selects RX7 yX7_reaches yX7_reaches, Cond.code yX7_reaches cX7_reaches 6 (some .boolean), Cond.fieldLink RX7 167 "LedgerKilnModel" "holds" "I", Cond.fieldLink RX7 68 "LedgerKilnModel" "holders" "[I", Cond.fieldLink RX7 16 "LedgerKilnModel" "days" "[I", Cond.fieldLink RX7 74 "LedgerKilnModel" "heldFrom" "[I", Cond.fieldLink RX7 77 "LedgerKilnModel" "heldTo" "[I", Cond.fieldLink RX7 25 "LedgerKilnModel" "accounts" "[I", Cond.fieldLink RX7 71 "LedgerKilnModel" "heldAccounts" "[I", Cond.methodLink RX7 104 yX7_refused, Cond.instanceMethod yX7_refused]
def wsX7_strike_r3 : List Cond := [Cond.selects RX7 yX7_refused yX7_refused, Cond.code yX7_refused cX7_refused 2 (some .boolean), Cond.fieldLink RX7 80 "LedgerKilnModel" "refusal" "I", Cond.methodLink RX7 142 yX7_has, Cond.instanceMethod yX7_has, Cond.selects RX7 yX7_has yX7_has, Cond.code yX7_has cX7_has 3 (some .boolean), Cond.fieldLink RX7 47 "LedgerKilnModel" "firsts" "[I", Cond.fieldLink RX7 50 "LedgerKilnModel" "ends" "[I", Cond.methodLink RX7 146 yX7_standsIn, Cond.instanceMethod yX7_standsIn, Cond.selects RX7 yX7_standsIn yX7_standsIn, Cond.code yX7_standsIn cX7_standsIn 3 (some .boolean)]
def wsX7_strike : List Cond := .code yX7_strike cX7_strike 6 (some .int) :: ((wsX7_strike_r1 ++ (wsX7_strike_r2 ++ wsX7_strike_r3)) ++ wsX70)
def wsX7_day : List Cond := .code yX7_day cX7_day 1 (some .int) :: ([.fieldLink RX7 111 "LedgerKilnModel" "day" "I", .methodLink RX7 107 yX7_fine, .instanceMethod yX7_fine, .selects RX7 yX7_fine yX7_fine, .initialized RX7, .code yX7_fine cX7_fine 2 (some .int), .fieldLink RX7 80 "LedgerKilnModel" "refusal" "I"] ++ wsX70)
def wsX7_pages : List Cond := .code yX7_pages cX7_pages 1 (some .int) :: ([.fieldLink RX7 88 "LedgerKilnModel" "pages" "I", .methodLink RX7 107 yX7_fine, .instanceMethod yX7_fine, .selects RX7 yX7_fine yX7_fine, .initialized RX7, .code yX7_fine cX7_fine 2 (some .int), .fieldLink RX7 80 "LedgerKilnModel" "refusal" "I"] ++ wsX70)
def wsX7_noPage : List Cond := .code yX7_noPage cX7_noPage 2 (some .boolean) :: ([.methodLink RX7 126 yX7_isPage, .instanceMethod yX7_isPage, .selects RX7 yX7_isPage yX7_isPage, .initialized RX7, .code yX7_isPage cX7_isPage 2 (some .boolean), .fieldLink RX7 88 "LedgerKilnModel" "pages" "I", .methodLink RX7 84 yX7_in, .static yX7_in, .code yX7_in cX7_in 3 (some .boolean), .methodLink RX7 104 yX7_refused, .instanceMethod yX7_refused, .selects RX7 yX7_refused yX7_refused, .code yX7_refused cX7_refused 2 (some .boolean), .fieldLink RX7 80 "LedgerKilnModel" "refusal" "I"] ++ wsX70)
def wsX7_state : List Cond := .code yX7_state cX7_state 2 (some .int) :: ([.fieldLink RX7 34 "LedgerKilnModel" "states" "[I", .methodLink RX7 179 yX7_noPage, .instanceMethod yX7_noPage, .selects RX7 yX7_noPage yX7_noPage, .initialized RX7, .code yX7_noPage cX7_noPage 2 (some .boolean), .methodLink RX7 126 yX7_isPage, .instanceMethod yX7_isPage, .selects RX7 yX7_isPage yX7_isPage, .code yX7_isPage cX7_isPage 2 (some .boolean), .fieldLink RX7 88 "LedgerKilnModel" "pages" "I", .methodLink RX7 84 yX7_in, .static yX7_in, .code yX7_in cX7_in 3 (some .boolean), .methodLink RX7 104 yX7_refused, .instanceMethod yX7_refused, .selects RX7 yX7_refused yX7_refused, .code yX7_refused cX7_refused 2 (some .boolean), .fieldLink RX7 80 "LedgerKilnModel" "refusal" "I"] ++ wsX70)
def wsX7_isTrue_r1 : List Cond := [Cond.methodLink RX7 179 yX7_noPage, Cond.instanceMethod yX7_noPage, Cond.selects RX7 yX7_noPage yX7_noPage, Cond.initialized RX7, Cond.code yX7_noPage cX7_noPage 2 (some .boolean), Cond.methodLink RX7 126 yX7_isPage, Cond.instanceMethod yX7_isPage, Cond.selects RX7 yX7_isPage yX7_isPage, Cond.code yX7_isPage cX7_isPage 2 (some .boolean), Cond.fieldLink RX7 88 "LedgerKilnModel" "pages" "I", Cond.methodLink RX7 84 yX7_in, Cond.static yX7_in, Cond.code yX7_in cX7_in 3 (some .boolean), Cond.methodLink RX7 104 yX7_refused, Cond.instanceMethod yX7_refused, Cond.selects RX7 yX7_refused yX7_refused, Cond.code yX7_refused cX7_refused 2 (some .boolean), Cond.fieldLink RX7 80 "LedgerKilnModel" "refusal" "I", Cond.methodLink RX7 129 yX7_isTrueInBook, Cond.instanceMethod yX7_isTrueInBook, Cond.selects RX7 yX7_isTrueInBook yX7_isTrueInBook, Cond.code yX7_isTrueInBook cX7_isTrueInBook 4 (some .boolean), Cond.fieldLink RX7 34 "LedgerKilnModel" "states" "[I", Cond.fieldLink RX7 22 "LedgerKilnModel" "legs" "[I"]
def wsX7_isTrue_r2 : List Cond := [Cond.fieldLink RX7 31 "LedgerKilnModel" "inBook" "[I", Cond.fieldLink RX7 28 "LedgerKilnModel" "written" "[I"]
def wsX7_isTrue : List Cond := .code yX7_isTrue cX7_isTrue 2 (some .boolean) :: ((wsX7_isTrue_r1 ++ wsX7_isTrue_r2) ++ wsX70)
def wsX7_text : List Cond := .code yX7_text cX7_text 2 (some .int) :: ([.fieldLink RX7 34 "LedgerKilnModel" "states" "[I", .fieldLink RX7 19 "LedgerKilnModel" "texts" "[I", .methodLink RX7 179 yX7_noPage, .instanceMethod yX7_noPage, .selects RX7 yX7_noPage yX7_noPage, .initialized RX7, .code yX7_noPage cX7_noPage 2 (some .boolean), .methodLink RX7 126 yX7_isPage, .instanceMethod yX7_isPage, .selects RX7 yX7_isPage yX7_isPage, .code yX7_isPage cX7_isPage 2 (some .boolean), .fieldLink RX7 88 "LedgerKilnModel" "pages" "I", .methodLink RX7 84 yX7_in, .static yX7_in, .code yX7_in cX7_in 3 (some .boolean), .methodLink RX7 104 yX7_refused, .instanceMethod yX7_refused, .selects RX7 yX7_refused yX7_refused, .code yX7_refused cX7_refused 2 (some .boolean), .fieldLink RX7 80 "LedgerKilnModel" "refusal" "I"] ++ wsX70)
def wsX7_marked : List Cond := .code yX7_marked cX7_marked 2 (some .int) :: ([.constant RX7 182 (1000003)])
def wsX7_markOf : List Cond := .code yX7_markOf cX7_markOf 4 (some .int) :: ([.fieldLink RX7 16 "LedgerKilnModel" "days" "[I", .fieldLink RX7 19 "LedgerKilnModel" "texts" "[I", .fieldLink RX7 22 "LedgerKilnModel" "legs" "[I", .fieldLink RX7 25 "LedgerKilnModel" "accounts" "[I", .fieldLink RX7 28 "LedgerKilnModel" "written" "[I", .methodLink RX7 183 yX7_marked, .static yX7_marked, .initialized RX7, .code yX7_marked cX7_marked 2 (some .int), .constant RX7 182 (1000003)] ++ wsX70)
def wsX7_mark_r1 : List Cond := [Cond.methodLink RX7 179 yX7_noPage, Cond.instanceMethod yX7_noPage, Cond.selects RX7 yX7_noPage yX7_noPage, Cond.initialized RX7, Cond.code yX7_noPage cX7_noPage 2 (some .boolean), Cond.methodLink RX7 126 yX7_isPage, Cond.instanceMethod yX7_isPage, Cond.selects RX7 yX7_isPage yX7_isPage, Cond.code yX7_isPage cX7_isPage 2 (some .boolean), Cond.fieldLink RX7 88 "LedgerKilnModel" "pages" "I", Cond.methodLink RX7 84 yX7_in, Cond.static yX7_in, Cond.code yX7_in cX7_in 3 (some .boolean), Cond.methodLink RX7 104 yX7_refused, Cond.instanceMethod yX7_refused, Cond.selects RX7 yX7_refused yX7_refused, Cond.code yX7_refused cX7_refused 2 (some .boolean), Cond.fieldLink RX7 80 "LedgerKilnModel" "refusal" "I", Cond.methodLink RX7 186 yX7_markOf, Cond.instanceMethod yX7_markOf, Cond.selects RX7 yX7_markOf yX7_markOf, Cond.code yX7_markOf cX7_markOf 4 (some .int), Cond.fieldLink RX7 16 "LedgerKilnModel" "days" "[I", Cond.fieldLink RX7 19 "LedgerKilnModel" "texts" "[I"]
def wsX7_mark_r2 : List Cond := [Cond.fieldLink RX7 22 "LedgerKilnModel" "legs" "[I", Cond.fieldLink RX7 25 "LedgerKilnModel" "accounts" "[I", Cond.fieldLink RX7 28 "LedgerKilnModel" "written" "[I", Cond.methodLink RX7 183 yX7_marked, Cond.static yX7_marked, Cond.code yX7_marked cX7_marked 2 (some .int), Cond.constant RX7 182 (1000003)]
def wsX7_mark : List Cond := .code yX7_mark cX7_mark 2 (some .int) :: ((wsX7_mark_r1 ++ wsX7_mark_r2) ++ wsX70)
def wsX7_reversal : List Cond := .code yX7_reversal cX7_reversal 2 (some .int) :: ([.fieldLink RX7 37 "LedgerKilnModel" "reversals" "[I", .methodLink RX7 179 yX7_noPage, .instanceMethod yX7_noPage, .selects RX7 yX7_noPage yX7_noPage, .initialized RX7, .code yX7_noPage cX7_noPage 2 (some .boolean), .methodLink RX7 126 yX7_isPage, .instanceMethod yX7_isPage, .selects RX7 yX7_isPage yX7_isPage, .code yX7_isPage cX7_isPage 2 (some .boolean), .fieldLink RX7 88 "LedgerKilnModel" "pages" "I", .methodLink RX7 84 yX7_in, .static yX7_in, .code yX7_in cX7_in 3 (some .boolean), .methodLink RX7 104 yX7_refused, .instanceMethod yX7_refused, .selects RX7 yX7_refused yX7_refused, .code yX7_refused cX7_refused 2 (some .boolean), .fieldLink RX7 80 "LedgerKilnModel" "refusal" "I"] ++ wsX70)
def wsX7_proves_r1 : List Cond := [Cond.fieldLink RX7 16 "LedgerKilnModel" "days" "[I", Cond.fieldLink RX7 101 "LedgerKilnModel" "draftLegs" "I", Cond.fieldLink RX7 7 "LedgerKilnModel" "draftAccounts" "[I", Cond.fieldLink RX7 13 "LedgerKilnModel" "draftAmounts" "[I", Cond.methodLink RX7 126 yX7_isPage, Cond.instanceMethod yX7_isPage, Cond.selects RX7 yX7_isPage yX7_isPage, Cond.initialized RX7, Cond.code yX7_isPage cX7_isPage 2 (some .boolean), Cond.fieldLink RX7 88 "LedgerKilnModel" "pages" "I", Cond.methodLink RX7 84 yX7_in, Cond.static yX7_in, Cond.code yX7_in cX7_in 3 (some .boolean), Cond.methodLink RX7 104 yX7_refused, Cond.instanceMethod yX7_refused, Cond.selects RX7 yX7_refused yX7_refused, Cond.code yX7_refused cX7_refused 2 (some .boolean), Cond.fieldLink RX7 80 "LedgerKilnModel" "refusal" "I", Cond.methodLink RX7 183 yX7_marked, Cond.static yX7_marked, Cond.code yX7_marked cX7_marked 2 (some .int), Cond.constant RX7 182 (1000003), Cond.methodLink RX7 186 yX7_markOf, Cond.instanceMethod yX7_markOf]
def wsX7_proves_r2 : List Cond := [Cond.selects RX7 yX7_markOf yX7_markOf, Cond.code yX7_markOf cX7_markOf 4 (some .int), Cond.fieldLink RX7 19 "LedgerKilnModel" "texts" "[I", Cond.fieldLink RX7 22 "LedgerKilnModel" "legs" "[I", Cond.fieldLink RX7 25 "LedgerKilnModel" "accounts" "[I", Cond.fieldLink RX7 28 "LedgerKilnModel" "written" "[I"]
def wsX7_proves : List Cond := .code yX7_proves cX7_proves 5 (some .boolean) :: ((wsX7_proves_r1 ++ wsX7_proves_r2) ++ wsX70)
def wsX7_sumOf : List Cond := .code yX7_sumOf cX7_sumOf 7 (some .int) :: ([.fieldLink RX7 22 "LedgerKilnModel" "legs" "[I", .fieldLink RX7 28 "LedgerKilnModel" "written" "[I", .fieldLink RX7 31 "LedgerKilnModel" "inBook" "[I", .fieldLink RX7 25 "LedgerKilnModel" "accounts" "[I"] ++ wsX70)
def wsX7_proven_r1 : List Cond := [Cond.fieldLink RX7 34 "LedgerKilnModel" "states" "[I", Cond.methodLink RX7 126 yX7_isPage, Cond.instanceMethod yX7_isPage, Cond.selects RX7 yX7_isPage yX7_isPage, Cond.initialized RX7, Cond.code yX7_isPage cX7_isPage 2 (some .boolean), Cond.fieldLink RX7 88 "LedgerKilnModel" "pages" "I", Cond.methodLink RX7 84 yX7_in, Cond.static yX7_in, Cond.code yX7_in cX7_in 3 (some .boolean), Cond.methodLink RX7 97 yX7_isAccount, Cond.static yX7_isAccount, Cond.code yX7_isAccount cX7_isAccount 1 (some .boolean), Cond.methodLink RX7 104 yX7_refused, Cond.instanceMethod yX7_refused, Cond.selects RX7 yX7_refused yX7_refused, Cond.code yX7_refused cX7_refused 2 (some .boolean), Cond.fieldLink RX7 80 "LedgerKilnModel" "refusal" "I", Cond.methodLink RX7 189 yX7_sumOf, Cond.instanceMethod yX7_sumOf, Cond.selects RX7 yX7_sumOf yX7_sumOf, Cond.code yX7_sumOf cX7_sumOf 7 (some .int), Cond.fieldLink RX7 22 "LedgerKilnModel" "legs" "[I", Cond.fieldLink RX7 28 "LedgerKilnModel" "written" "[I"]
def wsX7_proven_r2 : List Cond := [Cond.fieldLink RX7 31 "LedgerKilnModel" "inBook" "[I", Cond.fieldLink RX7 25 "LedgerKilnModel" "accounts" "[I"]
def wsX7_proven : List Cond := .code yX7_proven cX7_proven 4 (some .int) :: ((wsX7_proven_r1 ++ wsX7_proven_r2) ++ wsX70)
def wsX7_noBalance : List Cond := .code yX7_noBalance cX7_noBalance 3 (some .boolean) :: ([.fieldLink RX7 111 "LedgerKilnModel" "day" "I", .methodLink RX7 97 yX7_isAccount, .static yX7_isAccount, .initialized RX7, .code yX7_isAccount cX7_isAccount 1 (some .boolean), .methodLink RX7 84 yX7_in, .static yX7_in, .code yX7_in cX7_in 3 (some .boolean), .methodLink RX7 104 yX7_refused, .instanceMethod yX7_refused, .selects RX7 yX7_refused yX7_refused, .code yX7_refused cX7_refused 2 (some .boolean), .fieldLink RX7 80 "LedgerKilnModel" "refusal" "I"] ++ wsX70)
def wsX7_balanceOf : List Cond := .code yX7_balanceOf cX7_balanceOf 5 (some .int) :: ([.fieldLink RX7 88 "LedgerKilnModel" "pages" "I", .fieldLink RX7 16 "LedgerKilnModel" "days" "[I", .methodLink RX7 189 yX7_sumOf, .instanceMethod yX7_sumOf, .selects RX7 yX7_sumOf yX7_sumOf, .initialized RX7, .code yX7_sumOf cX7_sumOf 7 (some .int), .fieldLink RX7 22 "LedgerKilnModel" "legs" "[I", .fieldLink RX7 28 "LedgerKilnModel" "written" "[I", .fieldLink RX7 31 "LedgerKilnModel" "inBook" "[I", .fieldLink RX7 25 "LedgerKilnModel" "accounts" "[I"] ++ wsX70)
def wsX7_balance_r1 : List Cond := [Cond.methodLink RX7 193 yX7_noBalance, Cond.instanceMethod yX7_noBalance, Cond.selects RX7 yX7_noBalance yX7_noBalance, Cond.initialized RX7, Cond.code yX7_noBalance cX7_noBalance 3 (some .boolean), Cond.fieldLink RX7 111 "LedgerKilnModel" "day" "I", Cond.methodLink RX7 97 yX7_isAccount, Cond.static yX7_isAccount, Cond.code yX7_isAccount cX7_isAccount 1 (some .boolean), Cond.methodLink RX7 84 yX7_in, Cond.static yX7_in, Cond.code yX7_in cX7_in 3 (some .boolean), Cond.methodLink RX7 104 yX7_refused, Cond.instanceMethod yX7_refused, Cond.selects RX7 yX7_refused yX7_refused, Cond.code yX7_refused cX7_refused 2 (some .boolean), Cond.fieldLink RX7 80 "LedgerKilnModel" "refusal" "I", Cond.methodLink RX7 196 yX7_balanceOf, Cond.instanceMethod yX7_balanceOf, Cond.selects RX7 yX7_balanceOf yX7_balanceOf, Cond.code yX7_balanceOf cX7_balanceOf 5 (some .int), Cond.fieldLink RX7 88 "LedgerKilnModel" "pages" "I", Cond.fieldLink RX7 16 "LedgerKilnModel" "days" "[I", Cond.methodLink RX7 189 yX7_sumOf]
def wsX7_balance_r2 : List Cond := [Cond.instanceMethod yX7_sumOf, Cond.selects RX7 yX7_sumOf yX7_sumOf, Cond.code yX7_sumOf cX7_sumOf 7 (some .int), Cond.fieldLink RX7 22 "LedgerKilnModel" "legs" "[I", Cond.fieldLink RX7 28 "LedgerKilnModel" "written" "[I", Cond.fieldLink RX7 31 "LedgerKilnModel" "inBook" "[I", Cond.fieldLink RX7 25 "LedgerKilnModel" "accounts" "[I"]
def wsX7_balance : List Cond := .code yX7_balance cX7_balance 3 (some .int) :: ((wsX7_balance_r1 ++ wsX7_balance_r2) ++ wsX70)
def wsX7_balanceByPages_r1 : List Cond := [Cond.fieldLink RX7 88 "LedgerKilnModel" "pages" "I", Cond.fieldLink RX7 16 "LedgerKilnModel" "days" "[I", Cond.fieldLink RX7 34 "LedgerKilnModel" "states" "[I", Cond.methodLink RX7 193 yX7_noBalance, Cond.instanceMethod yX7_noBalance, Cond.selects RX7 yX7_noBalance yX7_noBalance, Cond.initialized RX7, Cond.code yX7_noBalance cX7_noBalance 3 (some .boolean), Cond.fieldLink RX7 111 "LedgerKilnModel" "day" "I", Cond.methodLink RX7 97 yX7_isAccount, Cond.static yX7_isAccount, Cond.code yX7_isAccount cX7_isAccount 1 (some .boolean), Cond.methodLink RX7 84 yX7_in, Cond.static yX7_in, Cond.code yX7_in cX7_in 3 (some .boolean), Cond.methodLink RX7 104 yX7_refused, Cond.instanceMethod yX7_refused, Cond.selects RX7 yX7_refused yX7_refused, Cond.code yX7_refused cX7_refused 2 (some .boolean), Cond.fieldLink RX7 80 "LedgerKilnModel" "refusal" "I", Cond.methodLink RX7 189 yX7_sumOf, Cond.instanceMethod yX7_sumOf, Cond.selects RX7 yX7_sumOf yX7_sumOf, Cond.code yX7_sumOf cX7_sumOf 7 (some .int)]
def wsX7_balanceByPages_r2 : List Cond := [Cond.fieldLink RX7 22 "LedgerKilnModel" "legs" "[I", Cond.fieldLink RX7 28 "LedgerKilnModel" "written" "[I", Cond.fieldLink RX7 31 "LedgerKilnModel" "inBook" "[I", Cond.fieldLink RX7 25 "LedgerKilnModel" "accounts" "[I"]
def wsX7_balanceByPages : List Cond := .code yX7_balanceByPages cX7_balanceByPages 6 (some .int) :: ((wsX7_balanceByPages_r1 ++ wsX7_balanceByPages_r2) ++ wsX70)
def wsX7_isFound : List Cond := .code yX7_isFound cX7_isFound 5 (some .boolean) :: ([.fieldLink RX7 91 "LedgerKilnModel" "made" "I", .fieldLink RX7 53 "LedgerKilnModel" "isAway" "[Z", .fieldLink RX7 56 "LedgerKilnModel" "isOutside" "[Z", .methodLink RX7 164 yX7_isTrueIn, .instanceMethod yX7_isTrueIn, .selects RX7 yX7_isTrueIn yX7_isTrueIn, .initialized RX7, .code yX7_isTrueIn cX7_isTrueIn 5 (some .boolean), .fieldLink RX7 22 "LedgerKilnModel" "legs" "[I", .fieldLink RX7 62 "LedgerKilnModel" "inCopy" "[I", .fieldLink RX7 28 "LedgerKilnModel" "written" "[I", .methodLink RX7 146 yX7_standsIn, .instanceMethod yX7_standsIn, .selects RX7 yX7_standsIn yX7_standsIn, .code yX7_standsIn cX7_standsIn 3 (some .boolean), .fieldLink RX7 59 "LedgerKilnModel" "hasPage" "[Z", .methodLink RX7 142 yX7_has, .instanceMethod yX7_has, .selects RX7 yX7_has yX7_has, .code yX7_has cX7_has 3 (some .boolean), .fieldLink RX7 47 "LedgerKilnModel" "firsts" "[I", .fieldLink RX7 50 "LedgerKilnModel" "ends" "[I"] ++ wsX70)
def wsX7_balanceByCopies_r1 : List Cond := [Cond.fieldLink RX7 88 "LedgerKilnModel" "pages" "I", Cond.fieldLink RX7 16 "LedgerKilnModel" "days" "[I", Cond.fieldLink RX7 34 "LedgerKilnModel" "states" "[I", Cond.methodLink RX7 193 yX7_noBalance, Cond.instanceMethod yX7_noBalance, Cond.selects RX7 yX7_noBalance yX7_noBalance, Cond.initialized RX7, Cond.code yX7_noBalance cX7_noBalance 3 (some .boolean), Cond.fieldLink RX7 111 "LedgerKilnModel" "day" "I", Cond.methodLink RX7 97 yX7_isAccount, Cond.static yX7_isAccount, Cond.code yX7_isAccount cX7_isAccount 1 (some .boolean), Cond.methodLink RX7 84 yX7_in, Cond.static yX7_in, Cond.code yX7_in cX7_in 3 (some .boolean), Cond.methodLink RX7 104 yX7_refused, Cond.instanceMethod yX7_refused, Cond.selects RX7 yX7_refused yX7_refused, Cond.code yX7_refused cX7_refused 2 (some .boolean), Cond.fieldLink RX7 80 "LedgerKilnModel" "refusal" "I", Cond.methodLink RX7 129 yX7_isTrueInBook, Cond.instanceMethod yX7_isTrueInBook, Cond.selects RX7 yX7_isTrueInBook yX7_isTrueInBook, Cond.code yX7_isTrueInBook cX7_isTrueInBook 4 (some .boolean)]
def wsX7_balanceByCopies_r2 : List Cond := [Cond.fieldLink RX7 22 "LedgerKilnModel" "legs" "[I", Cond.fieldLink RX7 31 "LedgerKilnModel" "inBook" "[I", Cond.fieldLink RX7 28 "LedgerKilnModel" "written" "[I", Cond.methodLink RX7 199 yX7_isFound, Cond.instanceMethod yX7_isFound, Cond.selects RX7 yX7_isFound yX7_isFound, Cond.code yX7_isFound cX7_isFound 5 (some .boolean), Cond.fieldLink RX7 91 "LedgerKilnModel" "made" "I", Cond.fieldLink RX7 53 "LedgerKilnModel" "isAway" "[Z", Cond.fieldLink RX7 56 "LedgerKilnModel" "isOutside" "[Z", Cond.methodLink RX7 164 yX7_isTrueIn, Cond.instanceMethod yX7_isTrueIn, Cond.selects RX7 yX7_isTrueIn yX7_isTrueIn, Cond.code yX7_isTrueIn cX7_isTrueIn 5 (some .boolean), Cond.fieldLink RX7 62 "LedgerKilnModel" "inCopy" "[I", Cond.methodLink RX7 146 yX7_standsIn, Cond.instanceMethod yX7_standsIn, Cond.selects RX7 yX7_standsIn yX7_standsIn, Cond.code yX7_standsIn cX7_standsIn 3 (some .boolean), Cond.fieldLink RX7 59 "LedgerKilnModel" "hasPage" "[Z", Cond.methodLink RX7 142 yX7_has, Cond.instanceMethod yX7_has, Cond.selects RX7 yX7_has yX7_has, Cond.code yX7_has cX7_has 3 (some .boolean)]
def wsX7_balanceByCopies_r3 : List Cond := [Cond.fieldLink RX7 47 "LedgerKilnModel" "firsts" "[I", Cond.fieldLink RX7 50 "LedgerKilnModel" "ends" "[I", Cond.methodLink RX7 196 yX7_balanceOf, Cond.instanceMethod yX7_balanceOf, Cond.selects RX7 yX7_balanceOf yX7_balanceOf, Cond.code yX7_balanceOf cX7_balanceOf 5 (some .int), Cond.methodLink RX7 189 yX7_sumOf, Cond.instanceMethod yX7_sumOf, Cond.selects RX7 yX7_sumOf yX7_sumOf, Cond.code yX7_sumOf cX7_sumOf 7 (some .int), Cond.fieldLink RX7 25 "LedgerKilnModel" "accounts" "[I"]
def wsX7_balanceByCopies : List Cond := .code yX7_balanceByCopies cX7_balanceByCopies 5 (some .int) :: ((wsX7_balanceByCopies_r1 ++ (wsX7_balanceByCopies_r2 ++ wsX7_balanceByCopies_r3)) ++ wsX70)
def wsX7_copies : List Cond := .code yX7_copies cX7_copies 1 (some .int) :: ([.methodLink RX7 158 yX7_copiesThere, .instanceMethod yX7_copiesThere, .selects RX7 yX7_copiesThere yX7_copiesThere, .initialized RX7, .code yX7_copiesThere cX7_copiesThere 3 (some .int), .fieldLink RX7 91 "LedgerKilnModel" "made" "I", .fieldLink RX7 53 "LedgerKilnModel" "isAway" "[Z", .methodLink RX7 107 yX7_fine, .instanceMethod yX7_fine, .selects RX7 yX7_fine yX7_fine, .code yX7_fine cX7_fine 2 (some .int), .fieldLink RX7 80 "LedgerKilnModel" "refusal" "I"] ++ wsX70)
def wsX7_noCopy : List Cond := .code yX7_noCopy cX7_noCopy 2 (some .boolean) :: ([.methodLink RX7 139 yX7_isCopy, .instanceMethod yX7_isCopy, .selects RX7 yX7_isCopy yX7_isCopy, .initialized RX7, .code yX7_isCopy cX7_isCopy 2 (some .boolean), .fieldLink RX7 91 "LedgerKilnModel" "made" "I", .fieldLink RX7 53 "LedgerKilnModel" "isAway" "[Z", .methodLink RX7 84 yX7_in, .static yX7_in, .code yX7_in cX7_in 3 (some .boolean), .methodLink RX7 104 yX7_refused, .instanceMethod yX7_refused, .selects RX7 yX7_refused yX7_refused, .code yX7_refused cX7_refused 2 (some .boolean), .fieldLink RX7 80 "LedgerKilnModel" "refusal" "I"] ++ wsX70)
def wsX7_size : List Cond := .code yX7_size cX7_size 2 (some .int) :: ([.fieldLink RX7 50 "LedgerKilnModel" "ends" "[I", .fieldLink RX7 47 "LedgerKilnModel" "firsts" "[I", .methodLink RX7 203 yX7_noCopy, .instanceMethod yX7_noCopy, .selects RX7 yX7_noCopy yX7_noCopy, .initialized RX7, .code yX7_noCopy cX7_noCopy 2 (some .boolean), .methodLink RX7 139 yX7_isCopy, .instanceMethod yX7_isCopy, .selects RX7 yX7_isCopy yX7_isCopy, .code yX7_isCopy cX7_isCopy 2 (some .boolean), .fieldLink RX7 91 "LedgerKilnModel" "made" "I", .fieldLink RX7 53 "LedgerKilnModel" "isAway" "[Z", .methodLink RX7 84 yX7_in, .static yX7_in, .code yX7_in cX7_in 3 (some .boolean), .methodLink RX7 104 yX7_refused, .instanceMethod yX7_refused, .selects RX7 yX7_refused yX7_refused, .code yX7_refused cX7_refused 2 (some .boolean), .fieldLink RX7 80 "LedgerKilnModel" "refusal" "I"] ++ wsX70)
def wsX7_isInVault : List Cond := .code yX7_isInVault cX7_isInVault 2 (some .boolean) :: ([.fieldLink RX7 56 "LedgerKilnModel" "isOutside" "[Z", .methodLink RX7 203 yX7_noCopy, .instanceMethod yX7_noCopy, .selects RX7 yX7_noCopy yX7_noCopy, .initialized RX7, .code yX7_noCopy cX7_noCopy 2 (some .boolean), .methodLink RX7 139 yX7_isCopy, .instanceMethod yX7_isCopy, .selects RX7 yX7_isCopy yX7_isCopy, .code yX7_isCopy cX7_isCopy 2 (some .boolean), .fieldLink RX7 91 "LedgerKilnModel" "made" "I", .fieldLink RX7 53 "LedgerKilnModel" "isAway" "[Z", .methodLink RX7 84 yX7_in, .static yX7_in, .code yX7_in cX7_in 3 (some .boolean), .methodLink RX7 104 yX7_refused, .instanceMethod yX7_refused, .selects RX7 yX7_refused yX7_refused, .code yX7_refused cX7_refused 2 (some .boolean), .fieldLink RX7 80 "LedgerKilnModel" "refusal" "I"] ++ wsX70)
def wsX7_stands_r1 : List Cond := [Cond.methodLink RX7 149 yX7_areBoth, Cond.instanceMethod yX7_areBoth, Cond.selects RX7 yX7_areBoth yX7_areBoth, Cond.initialized RX7, Cond.code yX7_areBoth cX7_areBoth 3 (some .boolean), Cond.methodLink RX7 139 yX7_isCopy, Cond.instanceMethod yX7_isCopy, Cond.selects RX7 yX7_isCopy yX7_isCopy, Cond.code yX7_isCopy cX7_isCopy 2 (some .boolean), Cond.fieldLink RX7 91 "LedgerKilnModel" "made" "I", Cond.fieldLink RX7 53 "LedgerKilnModel" "isAway" "[Z", Cond.methodLink RX7 84 yX7_in, Cond.static yX7_in, Cond.code yX7_in cX7_in 3 (some .boolean), Cond.methodLink RX7 126 yX7_isPage, Cond.instanceMethod yX7_isPage, Cond.selects RX7 yX7_isPage yX7_isPage, Cond.code yX7_isPage cX7_isPage 2 (some .boolean), Cond.fieldLink RX7 88 "LedgerKilnModel" "pages" "I", Cond.methodLink RX7 142 yX7_has, Cond.instanceMethod yX7_has, Cond.selects RX7 yX7_has yX7_has, Cond.code yX7_has cX7_has 3 (some .boolean), Cond.fieldLink RX7 47 "LedgerKilnModel" "firsts" "[I"]
def wsX7_stands_r2 : List Cond := [Cond.fieldLink RX7 50 "LedgerKilnModel" "ends" "[I", Cond.methodLink RX7 104 yX7_refused, Cond.instanceMethod yX7_refused, Cond.selects RX7 yX7_refused yX7_refused, Cond.code yX7_refused cX7_refused 2 (some .boolean), Cond.fieldLink RX7 80 "LedgerKilnModel" "refusal" "I", Cond.methodLink RX7 146 yX7_standsIn, Cond.instanceMethod yX7_standsIn, Cond.selects RX7 yX7_standsIn yX7_standsIn, Cond.code yX7_standsIn cX7_standsIn 3 (some .boolean), Cond.fieldLink RX7 59 "LedgerKilnModel" "hasPage" "[Z"]
def wsX7_stands : List Cond := .code yX7_stands cX7_stands 3 (some .boolean) :: ((wsX7_stands_r1 ++ wsX7_stands_r2) ++ wsX70)
def wsX7_copiesOf_r1 : List Cond := [Cond.fieldLink RX7 91 "LedgerKilnModel" "made" "I", Cond.fieldLink RX7 53 "LedgerKilnModel" "isAway" "[Z", Cond.methodLink RX7 179 yX7_noPage, Cond.instanceMethod yX7_noPage, Cond.selects RX7 yX7_noPage yX7_noPage, Cond.initialized RX7, Cond.code yX7_noPage cX7_noPage 2 (some .boolean), Cond.methodLink RX7 126 yX7_isPage, Cond.instanceMethod yX7_isPage, Cond.selects RX7 yX7_isPage yX7_isPage, Cond.code yX7_isPage cX7_isPage 2 (some .boolean), Cond.fieldLink RX7 88 "LedgerKilnModel" "pages" "I", Cond.methodLink RX7 84 yX7_in, Cond.static yX7_in, Cond.code yX7_in cX7_in 3 (some .boolean), Cond.methodLink RX7 104 yX7_refused, Cond.instanceMethod yX7_refused, Cond.selects RX7 yX7_refused yX7_refused, Cond.code yX7_refused cX7_refused 2 (some .boolean), Cond.fieldLink RX7 80 "LedgerKilnModel" "refusal" "I", Cond.methodLink RX7 146 yX7_standsIn, Cond.instanceMethod yX7_standsIn, Cond.selects RX7 yX7_standsIn yX7_standsIn, Cond.code yX7_standsIn cX7_standsIn 3 (some .boolean)]
def wsX7_copiesOf_r2 : List Cond := [Cond.fieldLink RX7 59 "LedgerKilnModel" "hasPage" "[Z", Cond.methodLink RX7 142 yX7_has, Cond.instanceMethod yX7_has, Cond.selects RX7 yX7_has yX7_has, Cond.code yX7_has cX7_has 3 (some .boolean), Cond.fieldLink RX7 47 "LedgerKilnModel" "firsts" "[I", Cond.fieldLink RX7 50 "LedgerKilnModel" "ends" "[I"]
def wsX7_copiesOf : List Cond := .code yX7_copiesOf cX7_copiesOf 4 (some .int) :: ((wsX7_copiesOf_r1 ++ wsX7_copiesOf_r2) ++ wsX70)
def wsX7_canRestore_r1 : List Cond := [Cond.methodLink RX7 203 yX7_noCopy, Cond.instanceMethod yX7_noCopy, Cond.selects RX7 yX7_noCopy yX7_noCopy, Cond.initialized RX7, Cond.code yX7_noCopy cX7_noCopy 2 (some .boolean), Cond.methodLink RX7 139 yX7_isCopy, Cond.instanceMethod yX7_isCopy, Cond.selects RX7 yX7_isCopy yX7_isCopy, Cond.code yX7_isCopy cX7_isCopy 2 (some .boolean), Cond.fieldLink RX7 91 "LedgerKilnModel" "made" "I", Cond.fieldLink RX7 53 "LedgerKilnModel" "isAway" "[Z", Cond.methodLink RX7 84 yX7_in, Cond.static yX7_in, Cond.code yX7_in cX7_in 3 (some .boolean), Cond.methodLink RX7 104 yX7_refused, Cond.instanceMethod yX7_refused, Cond.selects RX7 yX7_refused yX7_refused, Cond.code yX7_refused cX7_refused 2 (some .boolean), Cond.fieldLink RX7 80 "LedgerKilnModel" "refusal" "I", Cond.methodLink RX7 161 yX7_isWhole, Cond.instanceMethod yX7_isWhole, Cond.selects RX7 yX7_isWhole yX7_isWhole, Cond.code yX7_isWhole cX7_isWhole 4 (some .boolean), Cond.fieldLink RX7 56 "LedgerKilnModel" "isOutside" "[Z"]
def wsX7_canRestore_r2 : List Cond := [Cond.fieldLink RX7 44 "LedgerKilnModel" "bases" "[I"]
def wsX7_canRestore : List Cond := .code yX7_canRestore cX7_canRestore 2 (some .boolean) :: ((wsX7_canRestore_r1 ++ wsX7_canRestore_r2) ++ wsX70)
def wsX7_gaps : List Cond := .code yX7_gaps cX7_gaps 1 (some .int) :: ([.methodLink RX7 132 yX7_burnt, .instanceMethod yX7_burnt, .selects RX7 yX7_burnt yX7_burnt, .initialized RX7, .code yX7_burnt cX7_burnt 3 (some .int), .fieldLink RX7 88 "LedgerKilnModel" "pages" "I", .fieldLink RX7 34 "LedgerKilnModel" "states" "[I", .methodLink RX7 107 yX7_fine, .instanceMethod yX7_fine, .selects RX7 yX7_fine yX7_fine, .code yX7_fine cX7_fine 2 (some .int), .fieldLink RX7 80 "LedgerKilnModel" "refusal" "I"] ++ wsX70)
def wsX7_lost_r1 : List Cond := [Cond.fieldLink RX7 88 "LedgerKilnModel" "pages" "I", Cond.fieldLink RX7 34 "LedgerKilnModel" "states" "[I", Cond.methodLink RX7 199 yX7_isFound, Cond.instanceMethod yX7_isFound, Cond.selects RX7 yX7_isFound yX7_isFound, Cond.initialized RX7, Cond.code yX7_isFound cX7_isFound 5 (some .boolean), Cond.fieldLink RX7 91 "LedgerKilnModel" "made" "I", Cond.fieldLink RX7 53 "LedgerKilnModel" "isAway" "[Z", Cond.fieldLink RX7 56 "LedgerKilnModel" "isOutside" "[Z", Cond.methodLink RX7 164 yX7_isTrueIn, Cond.instanceMethod yX7_isTrueIn, Cond.selects RX7 yX7_isTrueIn yX7_isTrueIn, Cond.code yX7_isTrueIn cX7_isTrueIn 5 (some .boolean), Cond.fieldLink RX7 22 "LedgerKilnModel" "legs" "[I", Cond.fieldLink RX7 62 "LedgerKilnModel" "inCopy" "[I", Cond.fieldLink RX7 28 "LedgerKilnModel" "written" "[I", Cond.methodLink RX7 146 yX7_standsIn, Cond.instanceMethod yX7_standsIn, Cond.selects RX7 yX7_standsIn yX7_standsIn, Cond.code yX7_standsIn cX7_standsIn 3 (some .boolean), Cond.fieldLink RX7 59 "LedgerKilnModel" "hasPage" "[Z", Cond.methodLink RX7 142 yX7_has, Cond.instanceMethod yX7_has]
def wsX7_lost_r2 : List Cond := [Cond.selects RX7 yX7_has yX7_has, Cond.code yX7_has cX7_has 3 (some .boolean), Cond.fieldLink RX7 47 "LedgerKilnModel" "firsts" "[I", Cond.fieldLink RX7 50 "LedgerKilnModel" "ends" "[I", Cond.methodLink RX7 107 yX7_fine, Cond.instanceMethod yX7_fine, Cond.selects RX7 yX7_fine yX7_fine, Cond.code yX7_fine cX7_fine 2 (some .int), Cond.fieldLink RX7 80 "LedgerKilnModel" "refusal" "I"]
def wsX7_lost : List Cond := .code yX7_lost cX7_lost 3 (some .int) :: ((wsX7_lost_r1 ++ wsX7_lost_r2) ++ wsX70)
def wsX7_audit_r1 : List Cond := [Cond.fieldLink RX7 47 "LedgerKilnModel" "firsts" "[I", Cond.fieldLink RX7 50 "LedgerKilnModel" "ends" "[I", Cond.fieldLink RX7 34 "LedgerKilnModel" "states" "[I", Cond.fieldLink RX7 59 "LedgerKilnModel" "hasPage" "[Z", Cond.fieldLink RX7 22 "LedgerKilnModel" "legs" "[I", Cond.fieldLink RX7 62 "LedgerKilnModel" "inCopy" "[I", Cond.fieldLink RX7 31 "LedgerKilnModel" "inBook" "[I", Cond.methodLink RX7 203 yX7_noCopy, Cond.instanceMethod yX7_noCopy, Cond.selects RX7 yX7_noCopy yX7_noCopy, Cond.initialized RX7, Cond.code yX7_noCopy cX7_noCopy 2 (some .boolean), Cond.methodLink RX7 139 yX7_isCopy, Cond.instanceMethod yX7_isCopy, Cond.selects RX7 yX7_isCopy yX7_isCopy, Cond.code yX7_isCopy cX7_isCopy 2 (some .boolean), Cond.fieldLink RX7 91 "LedgerKilnModel" "made" "I", Cond.fieldLink RX7 53 "LedgerKilnModel" "isAway" "[Z", Cond.methodLink RX7 84 yX7_in, Cond.static yX7_in, Cond.code yX7_in cX7_in 3 (some .boolean), Cond.methodLink RX7 104 yX7_refused, Cond.instanceMethod yX7_refused, Cond.selects RX7 yX7_refused yX7_refused]
def wsX7_audit_r2 : List Cond := [Cond.code yX7_refused cX7_refused 2 (some .boolean), Cond.fieldLink RX7 80 "LedgerKilnModel" "refusal" "I"]
def wsX7_audit : List Cond := .code yX7_audit cX7_audit 7 (some .int) :: ((wsX7_audit_r1 ++ wsX7_audit_r2) ++ wsX70)
def wsX7_noCase : List Cond := .code yX7_noCase cX7_noCase 2 (some .boolean) :: ([.methodLink RX7 173 yX7_isCase, .instanceMethod yX7_isCase, .selects RX7 yX7_isCase yX7_isCase, .initialized RX7, .code yX7_isCase cX7_isCase 2 (some .boolean), .fieldLink RX7 94 "LedgerKilnModel" "cases" "I", .methodLink RX7 84 yX7_in, .static yX7_in, .code yX7_in cX7_in 3 (some .boolean), .methodLink RX7 104 yX7_refused, .instanceMethod yX7_refused, .selects RX7 yX7_refused yX7_refused, .code yX7_refused cX7_refused 2 (some .boolean), .fieldLink RX7 80 "LedgerKilnModel" "refusal" "I"] ++ wsX70)
def wsX7_isOpen : List Cond := .code yX7_isOpen cX7_isOpen 2 (some .boolean) :: ([.fieldLink RX7 65 "LedgerKilnModel" "isClosed" "[Z", .methodLink RX7 206 yX7_noCase, .instanceMethod yX7_noCase, .selects RX7 yX7_noCase yX7_noCase, .initialized RX7, .code yX7_noCase cX7_noCase 2 (some .boolean), .methodLink RX7 173 yX7_isCase, .instanceMethod yX7_isCase, .selects RX7 yX7_isCase yX7_isCase, .code yX7_isCase cX7_isCase 2 (some .boolean), .fieldLink RX7 94 "LedgerKilnModel" "cases" "I", .methodLink RX7 84 yX7_in, .static yX7_in, .code yX7_in cX7_in 3 (some .boolean), .methodLink RX7 104 yX7_refused, .instanceMethod yX7_refused, .selects RX7 yX7_refused yX7_refused, .code yX7_refused cX7_refused 2 (some .boolean), .fieldLink RX7 80 "LedgerKilnModel" "refusal" "I"] ++ wsX70)
def wsX7_holders_r1 : List Cond := [Cond.methodLink RX7 179 yX7_noPage, Cond.instanceMethod yX7_noPage, Cond.selects RX7 yX7_noPage yX7_noPage, Cond.initialized RX7, Cond.code yX7_noPage cX7_noPage 2 (some .boolean), Cond.methodLink RX7 126 yX7_isPage, Cond.instanceMethod yX7_isPage, Cond.selects RX7 yX7_isPage yX7_isPage, Cond.code yX7_isPage cX7_isPage 2 (some .boolean), Cond.fieldLink RX7 88 "LedgerKilnModel" "pages" "I", Cond.methodLink RX7 84 yX7_in, Cond.static yX7_in, Cond.code yX7_in cX7_in 3 (some .boolean), Cond.methodLink RX7 104 yX7_refused, Cond.instanceMethod yX7_refused, Cond.selects RX7 yX7_refused yX7_refused, Cond.code yX7_refused cX7_refused 2 (some .boolean), Cond.fieldLink RX7 80 "LedgerKilnModel" "refusal" "I", Cond.methodLink RX7 155 yX7_holdersOf, Cond.instanceMethod yX7_holdersOf, Cond.selects RX7 yX7_holdersOf yX7_holdersOf, Cond.code yX7_holdersOf cX7_holdersOf 4 (some .int), Cond.fieldLink RX7 94 "LedgerKilnModel" "cases" "I", Cond.fieldLink RX7 65 "LedgerKilnModel" "isClosed" "[Z"]
def wsX7_holders_r2 : List Cond := [Cond.methodLink RX7 170 yX7_reaches, Cond.instanceMethod yX7_reaches, Cond.selects RX7 yX7_reaches yX7_reaches, Cond.code yX7_reaches cX7_reaches 6 (some .boolean), Cond.fieldLink RX7 167 "LedgerKilnModel" "holds" "I", Cond.fieldLink RX7 22 "LedgerKilnModel" "legs" "[I", Cond.fieldLink RX7 68 "LedgerKilnModel" "holders" "[I", Cond.fieldLink RX7 16 "LedgerKilnModel" "days" "[I", Cond.fieldLink RX7 74 "LedgerKilnModel" "heldFrom" "[I", Cond.fieldLink RX7 77 "LedgerKilnModel" "heldTo" "[I", Cond.fieldLink RX7 25 "LedgerKilnModel" "accounts" "[I", Cond.fieldLink RX7 71 "LedgerKilnModel" "heldAccounts" "[I"]
def wsX7_holders : List Cond := .code yX7_holders cX7_holders 2 (some .int) :: ((wsX7_holders_r1 ++ wsX7_holders_r2) ++ wsX70)
def wsX7_canStrike_r1 : List Cond := [Cond.methodLink RX7 173 yX7_isCase, Cond.instanceMethod yX7_isCase, Cond.selects RX7 yX7_isCase yX7_isCase, Cond.initialized RX7, Cond.code yX7_isCase cX7_isCase 2 (some .boolean), Cond.fieldLink RX7 94 "LedgerKilnModel" "cases" "I", Cond.methodLink RX7 84 yX7_in, Cond.static yX7_in, Cond.code yX7_in cX7_in 3 (some .boolean), Cond.methodLink RX7 126 yX7_isPage, Cond.instanceMethod yX7_isPage, Cond.selects RX7 yX7_isPage yX7_isPage, Cond.code yX7_isPage cX7_isPage 2 (some .boolean), Cond.fieldLink RX7 88 "LedgerKilnModel" "pages" "I", Cond.methodLink RX7 104 yX7_refused, Cond.instanceMethod yX7_refused, Cond.selects RX7 yX7_refused yX7_refused, Cond.code yX7_refused cX7_refused 2 (some .boolean), Cond.fieldLink RX7 80 "LedgerKilnModel" "refusal" "I", Cond.methodLink RX7 176 yX7_may, Cond.instanceMethod yX7_may, Cond.selects RX7 yX7_may yX7_may, Cond.code yX7_may cX7_may 3 (some .boolean), Cond.fieldLink RX7 65 "LedgerKilnModel" "isClosed" "[Z"]
def wsX7_canStrike_r2 : List Cond := [Cond.methodLink RX7 129 yX7_isTrueInBook, Cond.instanceMethod yX7_isTrueInBook, Cond.selects RX7 yX7_isTrueInBook yX7_isTrueInBook, Cond.code yX7_isTrueInBook cX7_isTrueInBook 4 (some .boolean), Cond.fieldLink RX7 34 "LedgerKilnModel" "states" "[I", Cond.fieldLink RX7 22 "LedgerKilnModel" "legs" "[I", Cond.fieldLink RX7 31 "LedgerKilnModel" "inBook" "[I", Cond.fieldLink RX7 28 "LedgerKilnModel" "written" "[I", Cond.methodLink RX7 155 yX7_holdersOf, Cond.instanceMethod yX7_holdersOf, Cond.selects RX7 yX7_holdersOf yX7_holdersOf, Cond.code yX7_holdersOf cX7_holdersOf 4 (some .int), Cond.methodLink RX7 170 yX7_reaches, Cond.instanceMethod yX7_reaches, Cond.selects RX7 yX7_reaches yX7_reaches, Cond.code yX7_reaches cX7_reaches 6 (some .boolean), Cond.fieldLink RX7 167 "LedgerKilnModel" "holds" "I", Cond.fieldLink RX7 68 "LedgerKilnModel" "holders" "[I", Cond.fieldLink RX7 16 "LedgerKilnModel" "days" "[I", Cond.fieldLink RX7 74 "LedgerKilnModel" "heldFrom" "[I", Cond.fieldLink RX7 77 "LedgerKilnModel" "heldTo" "[I", Cond.fieldLink RX7 25 "LedgerKilnModel" "accounts" "[I", Cond.fieldLink RX7 71 "LedgerKilnModel" "heldAccounts" "[I"]
def wsX7_canStrike : List Cond := .code yX7_canStrike cX7_canStrike 4 (some .boolean) :: ((wsX7_canStrike_r1 ++ wsX7_canStrike_r2) ++ wsX70)
def wsL_leg_r1 : List Cond := [Cond.classLink RL 13 "java/lang/IndexOutOfBoundsException", Cond.classLink RL 15 "java/lang/IllegalArgumentException", Cond.classLink RL 17 "java/lang/IllegalStateException", Cond.methodLink RL 7 yX6_leg, Cond.instanceMethod yX6_leg, Cond.selects RX6 yX6_leg yX6_leg, Cond.initialized RX6, Cond.code yX6_leg cX6_leg 3 (some .int), Cond.classLink RX6 51 "java/lang/IllegalArgumentException", Cond.initialized "java/lang/IllegalArgumentException", Cond.classLink RX6 62 "java/lang/IllegalStateException", Cond.initialized "java/lang/IllegalStateException", Cond.fieldLink RX6 10 "LedgerKiln" "draft" "LLedgerKiln$Legs;", Cond.methodLink RX6 44 yX6_needAccount, Cond.static yX6_needAccount, Cond.code yX6_needAccount cX6_needAccount 1 none, Cond.classLink RX6 304 "java/lang/IndexOutOfBoundsException", Cond.initialized "java/lang/IndexOutOfBoundsException", Cond.methodLink RX6 48 yX6_needAmount, Cond.static yX6_needAmount, Cond.code yX6_needAmount cX6_needAmount 1 none, Cond.methodLink RX6 58 yX3_isFull, Cond.instanceMethod yX3_isFull, Cond.selects RX3 yX3_isFull yX3_isFull]
def wsL_leg_r2 : List Cond := [Cond.initialized RX3, Cond.code yX3_isFull cX3_isFull 1 (some .boolean), Cond.fieldLink RX3 18 "LedgerKiln$Legs" "count" "I", Cond.methodLink RX6 67 yX3_add, Cond.instanceMethod yX3_add, Cond.selects RX3 yX3_add yX3_add, Cond.code yX3_add cX3_add 3 (some .int), Cond.fieldLink RX3 9 "LedgerKiln$Legs" "accounts" "[I", Cond.fieldLink RX3 15 "LedgerKiln$Legs" "amounts" "[I"]
def wsL_leg : List Cond := .codeWith yL_leg cL_leg 5 (some .int) [(0, 10, 13, 13), (0, 10, 17, 15), (0, 10, 21, 17)] :: ((wsL_leg_r1 ++ wsL_leg_r2) ++ wsX60 ++ wsX30 ++ (vx_atS RX6 55 "java/lang/IllegalArgumentException" ["java/lang/RuntimeException", "java/lang/Exception"]).filter goodWord ++ (vx_atS RX6 66 "java/lang/IllegalStateException" ["java/lang/RuntimeException", "java/lang/Exception"]).filter goodWord ++ (vx_atS RX6 308 "java/lang/IndexOutOfBoundsException" ["java/lang/RuntimeException", "java/lang/Exception"]).filter goodWord)
def wsL_write_r1 : List Cond := [Cond.classLink RL 15 "java/lang/IllegalArgumentException", Cond.classLink RL 17 "java/lang/IllegalStateException", Cond.methodLink RL 19 yX6_write, Cond.instanceMethod yX6_write, Cond.selects RX6 yX6_write yX6_write, Cond.initialized RX6, Cond.code yX6_write cX6_write 3 (some .int), Cond.classLink RX6 62 "java/lang/IllegalStateException", Cond.initialized "java/lang/IllegalStateException", Cond.fieldLink RX6 10 "LedgerKiln" "draft" "LLedgerKiln$Legs;", Cond.fieldLink RX6 22 "LedgerKiln" "book" "LLedgerKiln$Book;", Cond.fieldLink RX6 40 "LedgerKiln" "today" "I", Cond.methodLink RX6 75 yX6_needText, Cond.static yX6_needText, Cond.code yX6_needText cX6_needText 1 none, Cond.classLink RX6 51 "java/lang/IllegalArgumentException", Cond.initialized "java/lang/IllegalArgumentException", Cond.methodLink RX6 78 yX3_isBalanced, Cond.instanceMethod yX3_isBalanced, Cond.selects RX3 yX3_isBalanced yX3_isBalanced, Cond.initialized RX3, Cond.code yX3_isBalanced cX3_isBalanced 3 (some .boolean), Cond.fieldLink RX3 18 "LedgerKiln$Legs" "count" "I", Cond.fieldLink RX3 15 "LedgerKiln$Legs" "amounts" "[I"]
def wsL_write_r2 : List Cond := [Cond.methodLink RX6 81 yX0_isFull, Cond.instanceMethod yX0_isFull, Cond.selects RX0 yX0_isFull yX0_isFull, Cond.initialized RX0, Cond.code yX0_isFull cX0_isFull 1 (some .boolean), Cond.fieldLink RX0 47 "LedgerKiln$Book" "count" "I", Cond.methodLink RX6 84 yX0_append, Cond.instanceMethod yX0_append, Cond.selects RX0 yX0_append yX0_append, Cond.code yX0_append cX0_append 6 (some .int), Cond.fieldLink RX0 9 "LedgerKiln$Book" "days" "[I", Cond.fieldLink RX0 15 "LedgerKiln$Book" "texts" "[I", Cond.fieldLink RX0 18 "LedgerKiln$Book" "marks" "[I", Cond.fieldLink RX0 21 "LedgerKiln$Book" "legCounts" "[I", Cond.fieldLink RX0 57 "LedgerKiln$Legs" "count" "I", Cond.fieldLink RX0 24 "LedgerKiln$Book" "accounts" "[I", Cond.fieldLink RX0 58 "LedgerKiln$Legs" "accounts" "[I", Cond.fieldLink RX0 27 "LedgerKiln$Book" "reversals" "[I", Cond.fieldLink RX0 40 "LedgerKiln$Book" "written" "LLedgerKiln$Sheet;", Cond.fieldLink RX0 44 "LedgerKiln$Book" "now" "LLedgerKiln$Sheet;", Cond.methodLink RX0 51 yX3_markWith, Cond.instanceMethod yX3_markWith, Cond.selects RX3 yX3_markWith yX3_markWith, Cond.code yX3_markWith cX3_markWith 5 (some .int)]
def wsL_write_r3 : List Cond := [Cond.fieldLink RX3 9 "LedgerKiln$Legs" "accounts" "[I", Cond.methodLink RX3 22 yX3_nextMark, Cond.static yX3_nextMark, Cond.code yX3_nextMark cX3_nextMark 2 (some .int), Cond.constant RX3 26 (1000003), Cond.methodLink RX0 59 yX4_fill, Cond.instanceMethod yX4_fill, Cond.selects RX4 yX4_fill yX4_fill, Cond.initialized RX4, Cond.code yX4_fill cX4_fill 4 none, Cond.fieldLink RX4 9 "LedgerKiln$Sheet" "filled" "[Z", Cond.fieldLink RX4 19 "LedgerKiln$Legs" "count" "I", Cond.fieldLink RX4 15 "LedgerKiln$Sheet" "amounts" "[I", Cond.fieldLink RX4 25 "LedgerKiln$Legs" "amounts" "[I", Cond.methodLink RX6 71 yX3_clear, Cond.instanceMethod yX3_clear, Cond.selects RX3 yX3_clear yX3_clear, Cond.code yX3_clear cX3_clear 2 (some .int)]
def wsL_write : List Cond := .codeWith yL_write cL_write 4 (some .int) [(0, 9, 12, 15), (0, 9, 15, 17)] :: ((wsL_write_r1 ++ (wsL_write_r2 ++ wsL_write_r3)) ++ wsX60 ++ wsX30 ++ wsX00 ++ wsX40 ++ (vx_atS RX6 66 "java/lang/IllegalStateException" ["java/lang/RuntimeException", "java/lang/Exception"]).filter goodWord ++ (vx_atS RX6 55 "java/lang/IllegalArgumentException" ["java/lang/RuntimeException", "java/lang/Exception"]).filter goodWord)
def wsL_reverse_r1 : List Cond := [Cond.classLink RL 13 "java/lang/IndexOutOfBoundsException", Cond.classLink RL 17 "java/lang/IllegalStateException", Cond.methodLink RL 23 yX6_reverse, Cond.instanceMethod yX6_reverse, Cond.selects RX6 yX6_reverse yX6_reverse, Cond.initialized RX6, Cond.code yX6_reverse cX6_reverse 2 (some .int), Cond.classLink RX6 62 "java/lang/IllegalStateException", Cond.initialized "java/lang/IllegalStateException", Cond.fieldLink RX6 22 "LedgerKiln" "book" "LLedgerKiln$Book;", Cond.fieldLink RX6 16 "LedgerKiln" "opposite" "LLedgerKiln$Legs;", Cond.fieldLink RX6 40 "LedgerKiln" "today" "I", Cond.methodLink RX6 88 yX6_needPage, Cond.instanceMethod yX6_needPage, Cond.selects RX6 yX6_needPage yX6_needPage, Cond.code yX6_needPage cX6_needPage 2 none, Cond.classLink RX6 304 "java/lang/IndexOutOfBoundsException", Cond.initialized "java/lang/IndexOutOfBoundsException", Cond.fieldLink RX6 233 "LedgerKiln$Book" "count" "I", Cond.methodLink RX6 91 yX0_isReversible, Cond.instanceMethod yX0_isReversible, Cond.selects RX0 yX0_isReversible yX0_isReversible, Cond.initialized RX0, Cond.code yX0_isReversible cX0_isReversible 2 (some .boolean)]
def wsL_reverse_r2 : List Cond := [Cond.fieldLink RX0 44 "LedgerKiln$Book" "now" "LLedgerKiln$Sheet;", Cond.fieldLink RX0 27 "LedgerKiln$Book" "reversals" "[I", Cond.fieldLink RX0 30 "LedgerKiln$Book" "reversing" "[Z", Cond.methodLink RX0 63 yX0_isTrueOn, Cond.instanceMethod yX0_isTrueOn, Cond.selects RX0 yX0_isTrueOn yX0_isTrueOn, Cond.code yX0_isTrueOn cX0_isTrueOn 3 (some .boolean), Cond.fieldLink RX0 40 "LedgerKiln$Book" "written" "LLedgerKiln$Sheet;", Cond.methodLink RX0 88 yX4_isLike, Cond.instanceMethod yX4_isLike, Cond.selects RX4 yX4_isLike yX4_isLike, Cond.initialized RX4, Cond.code yX4_isLike cX4_isLike 4 (some .boolean), Cond.fieldLink RX4 9 "LedgerKiln$Sheet" "filled" "[Z", Cond.methodLink RX4 26 yX4_amountOf, Cond.instanceMethod yX4_amountOf, Cond.selects RX4 yX4_amountOf yX4_amountOf, Cond.code yX4_amountOf cX4_amountOf 3 (some .int), Cond.fieldLink RX4 15 "LedgerKiln$Sheet" "amounts" "[I", Cond.methodLink RX6 81 yX0_isFull, Cond.instanceMethod yX0_isFull, Cond.selects RX0 yX0_isFull yX0_isFull, Cond.code yX0_isFull cX0_isFull 1 (some .boolean), Cond.fieldLink RX0 47 "LedgerKiln$Book" "count" "I"]
def wsL_reverse_r3 : List Cond := [Cond.methodLink RX6 97 yX0_appendReversal, Cond.instanceMethod yX0_appendReversal, Cond.selects RX0 yX0_appendReversal yX0_appendReversal, Cond.code yX0_appendReversal cX0_appendReversal 5 (some .int), Cond.fieldLink RX0 21 "LedgerKiln$Book" "legCounts" "[I", Cond.fieldLink RX0 24 "LedgerKiln$Book" "accounts" "[I", Cond.fieldLink RX0 15 "LedgerKiln$Book" "texts" "[I", Cond.methodLink RX0 67 yX3_clear, Cond.instanceMethod yX3_clear, Cond.selects RX3 yX3_clear yX3_clear, Cond.initialized RX3, Cond.code yX3_clear cX3_clear 2 (some .int), Cond.fieldLink RX3 18 "LedgerKiln$Legs" "count" "I", Cond.methodLink RX0 71 yX4_amountOf, Cond.methodLink RX0 74 yX3_add, Cond.instanceMethod yX3_add, Cond.selects RX3 yX3_add yX3_add, Cond.code yX3_add cX3_add 3 (some .int), Cond.fieldLink RX3 9 "LedgerKiln$Legs" "accounts" "[I", Cond.fieldLink RX3 15 "LedgerKiln$Legs" "amounts" "[I", Cond.methodLink RX0 77 yX0_append, Cond.instanceMethod yX0_append, Cond.selects RX0 yX0_append yX0_append, Cond.code yX0_append cX0_append 6 (some .int)]
def wsL_reverse_r4 : List Cond := [Cond.fieldLink RX0 9 "LedgerKiln$Book" "days" "[I", Cond.fieldLink RX0 18 "LedgerKiln$Book" "marks" "[I", Cond.fieldLink RX0 57 "LedgerKiln$Legs" "count" "I", Cond.fieldLink RX0 58 "LedgerKiln$Legs" "accounts" "[I", Cond.methodLink RX0 51 yX3_markWith, Cond.instanceMethod yX3_markWith, Cond.selects RX3 yX3_markWith yX3_markWith, Cond.code yX3_markWith cX3_markWith 5 (some .int), Cond.methodLink RX3 22 yX3_nextMark, Cond.static yX3_nextMark, Cond.code yX3_nextMark cX3_nextMark 2 (some .int), Cond.constant RX3 26 (1000003), Cond.methodLink RX0 59 yX4_fill, Cond.instanceMethod yX4_fill, Cond.selects RX4 yX4_fill yX4_fill, Cond.code yX4_fill cX4_fill 4 none, Cond.fieldLink RX4 19 "LedgerKiln$Legs" "count" "I", Cond.fieldLink RX4 25 "LedgerKiln$Legs" "amounts" "[I"]
def wsL_reverse : List Cond := .codeWith yL_reverse cL_reverse 4 (some .int) [(0, 9, 12, 13), (0, 9, 15, 17)] :: ((wsL_reverse_r1 ++ (wsL_reverse_r2 ++ (wsL_reverse_r3 ++ wsL_reverse_r4))) ++ wsX60 ++ wsX00 ++ wsX40 ++ wsX30 ++ (vx_atS RX6 66 "java/lang/IllegalStateException" ["java/lang/RuntimeException", "java/lang/Exception"]).filter goodWord ++ (vx_atS RX6 308 "java/lang/IndexOutOfBoundsException" ["java/lang/RuntimeException", "java/lang/Exception"]).filter goodWord)
def wsL_pass : List Cond := .codeWith yL_pass cL_pass 4 (some .int) [(0, 9, 12, 15), (0, 9, 15, 17)] :: ([.classLink RL 15 "java/lang/IllegalArgumentException", .classLink RL 17 "java/lang/IllegalStateException", .methodLink RL 26 yX6_pass, .instanceMethod yX6_pass, .selects RX6 yX6_pass yX6_pass, .initialized RX6, .code yX6_pass cX6_pass 2 (some .int), .classLink RX6 51 "java/lang/IllegalArgumentException", .initialized "java/lang/IllegalArgumentException", .classLink RX6 62 "java/lang/IllegalStateException", .initialized "java/lang/IllegalStateException", .fieldLink RX6 40 "LedgerKiln" "today" "I"] ++ wsX60 ++ (vx_atS RX6 55 "java/lang/IllegalArgumentException" ["java/lang/RuntimeException", "java/lang/Exception"]).filter goodWord ++ (vx_atS RX6 66 "java/lang/IllegalStateException" ["java/lang/RuntimeException", "java/lang/Exception"]).filter goodWord)
def wsL_burn_r1 : List Cond := [Cond.classLink RL 13 "java/lang/IndexOutOfBoundsException", Cond.classLink RL 15 "java/lang/IllegalArgumentException", Cond.methodLink RL 29 yX6_burn, Cond.instanceMethod yX6_burn, Cond.selects RX6 yX6_burn yX6_burn, Cond.initialized RX6, Cond.code yX6_burn cX6_burn 5 (some .int), Cond.classLink RX6 51 "java/lang/IllegalArgumentException", Cond.initialized "java/lang/IllegalArgumentException", Cond.fieldLink RX6 22 "LedgerKiln" "book" "LLedgerKiln$Book;", Cond.fieldLink RX6 107 "LedgerKiln$Book" "now" "LLedgerKiln$Sheet;", Cond.methodLink RX6 88 yX6_needPage, Cond.instanceMethod yX6_needPage, Cond.selects RX6 yX6_needPage yX6_needPage, Cond.code yX6_needPage cX6_needPage 2 none, Cond.classLink RX6 304 "java/lang/IndexOutOfBoundsException", Cond.initialized "java/lang/IndexOutOfBoundsException", Cond.fieldLink RX6 233 "LedgerKiln$Book" "count" "I", Cond.methodLink RX6 111 yX4_blank, Cond.instanceMethod yX4_blank, Cond.selects RX4 yX4_blank yX4_blank, Cond.initialized RX4, Cond.code yX4_blank cX4_blank 4 (some .boolean), Cond.fieldLink RX4 9 "LedgerKiln$Sheet" "filled" "[Z"]
def wsL_burn_r2 : List Cond := [Cond.fieldLink RX4 15 "LedgerKiln$Sheet" "amounts" "[I"]
def wsL_burn : List Cond := .codeWith yL_burn cL_burn 5 (some .int) [(0, 10, 13, 13), (0, 10, 17, 15)] :: ((wsL_burn_r1 ++ wsL_burn_r2) ++ wsX60 ++ wsX00 ++ wsX40 ++ (vx_atS RX6 55 "java/lang/IllegalArgumentException" ["java/lang/RuntimeException", "java/lang/Exception"]).filter goodWord ++ (vx_atS RX6 308 "java/lang/IndexOutOfBoundsException" ["java/lang/RuntimeException", "java/lang/Exception"]).filter goodWord)
def wsL_alter_r1 : List Cond := [Cond.classLink RL 13 "java/lang/IndexOutOfBoundsException", Cond.classLink RL 15 "java/lang/IllegalArgumentException", Cond.classLink RL 17 "java/lang/IllegalStateException", Cond.methodLink RL 32 yX6_alter, Cond.instanceMethod yX6_alter, Cond.selects RX6 yX6_alter yX6_alter, Cond.initialized RX6, Cond.code yX6_alter cX6_alter 4 (some .int), Cond.classLink RX6 51 "java/lang/IllegalArgumentException", Cond.initialized "java/lang/IllegalArgumentException", Cond.classLink RX6 62 "java/lang/IllegalStateException", Cond.initialized "java/lang/IllegalStateException", Cond.fieldLink RX6 22 "LedgerKiln" "book" "LLedgerKiln$Book;", Cond.fieldLink RX6 107 "LedgerKiln$Book" "now" "LLedgerKiln$Sheet;", Cond.fieldLink RX6 121 "LedgerKiln$Book" "legCounts" "[I", Cond.methodLink RX6 88 yX6_needPage, Cond.instanceMethod yX6_needPage, Cond.selects RX6 yX6_needPage yX6_needPage, Cond.code yX6_needPage cX6_needPage 2 none, Cond.classLink RX6 304 "java/lang/IndexOutOfBoundsException", Cond.initialized "java/lang/IndexOutOfBoundsException", Cond.fieldLink RX6 233 "LedgerKiln$Book" "count" "I", Cond.methodLink RX6 48 yX6_needAmount, Cond.static yX6_needAmount]
def wsL_alter_r2 : List Cond := [Cond.code yX6_needAmount cX6_needAmount 1 none, Cond.methodLink RX6 118 yX4_isFilled, Cond.instanceMethod yX4_isFilled, Cond.selects RX4 yX4_isFilled yX4_isFilled, Cond.initialized RX4, Cond.code yX4_isFilled cX4_isFilled 2 (some .boolean), Cond.fieldLink RX4 9 "LedgerKiln$Sheet" "filled" "[Z", Cond.methodLink RX6 127 yX4_replace, Cond.instanceMethod yX4_replace, Cond.selects RX4 yX4_replace yX4_replace, Cond.code yX4_replace cX4_replace 5 (some .int), Cond.fieldLink RX4 15 "LedgerKiln$Sheet" "amounts" "[I"]
def wsL_alter : List Cond := .codeWith yL_alter cL_alter 6 (some .int) [(0, 12, 15, 13), (0, 12, 19, 15), (0, 12, 23, 17)] :: ((wsL_alter_r1 ++ wsL_alter_r2) ++ wsX60 ++ wsX00 ++ wsX40 ++ (vx_atS RX6 55 "java/lang/IllegalArgumentException" ["java/lang/RuntimeException", "java/lang/Exception"]).filter goodWord ++ (vx_atS RX6 66 "java/lang/IllegalStateException" ["java/lang/RuntimeException", "java/lang/Exception"]).filter goodWord ++ (vx_atS RX6 308 "java/lang/IndexOutOfBoundsException" ["java/lang/RuntimeException", "java/lang/Exception"]).filter goodWord)
def wsL_copy_r1 : List Cond := [Cond.classLink RL 17 "java/lang/IllegalStateException", Cond.methodLink RL 36 yX6_copy, Cond.instanceMethod yX6_copy, Cond.selects RX6 yX6_copy yX6_copy, Cond.initialized RX6, Cond.code yX6_copy cX6_copy 1 (some .int), Cond.fieldLink RX6 29 "LedgerKiln" "vault" "LLedgerKiln$Vault;", Cond.fieldLink RX6 22 "LedgerKiln" "book" "LLedgerKiln$Book;", Cond.methodLink RX6 131 yX6_needRoomForCopy, Cond.instanceMethod yX6_needRoomForCopy, Cond.selects RX6 yX6_needRoomForCopy yX6_needRoomForCopy, Cond.code yX6_needRoomForCopy cX6_needRoomForCopy 1 none, Cond.classLink RX6 62 "java/lang/IllegalStateException", Cond.initialized "java/lang/IllegalStateException", Cond.methodLink RX6 329 yX5_isFull, Cond.instanceMethod yX5_isFull, Cond.selects RX5 yX5_isFull yX5_isFull, Cond.initialized RX5, Cond.code yX5_isFull cX5_isFull 1 (some .boolean), Cond.fieldLink RX5 17 "LedgerKiln$Vault" "made" "I", Cond.methodLink RX6 294 yX0_countBurnt, Cond.instanceMethod yX0_countBurnt, Cond.selects RX0 yX0_countBurnt yX0_countBurnt, Cond.initialized RX0]
def wsL_copy_r2 : List Cond := [Cond.code yX0_countBurnt cX0_countBurnt 3 (some .int), Cond.fieldLink RX0 47 "LedgerKiln$Book" "count" "I", Cond.methodLink RX0 91 yX0_stateOf, Cond.instanceMethod yX0_stateOf, Cond.selects RX0 yX0_stateOf yX0_stateOf, Cond.code yX0_stateOf cX0_stateOf 2 (some .int), Cond.fieldLink RX0 34 "LedgerKiln$Book" "struck" "[Z", Cond.fieldLink RX0 44 "LedgerKiln$Book" "now" "LLedgerKiln$Sheet;", Cond.methodLink RX0 85 yX4_isFilled, Cond.instanceMethod yX4_isFilled, Cond.selects RX4 yX4_isFilled yX4_isFilled, Cond.initialized RX4, Cond.code yX4_isFilled cX4_isFilled 2 (some .boolean), Cond.fieldLink RX4 9 "LedgerKiln$Sheet" "filled" "[Z", Cond.methodLink RX6 134 yX5_make, Cond.instanceMethod yX5_make, Cond.selects RX5 yX5_make yX5_make, Cond.code yX5_make cX5_make 5 (some .int), Cond.classLink RX5 9 RX1, Cond.instantiable RX1 5, Cond.initialized RX1, Cond.fieldLink RX5 21 "LedgerKiln$Copy" "end" "I", Cond.fieldLink RX5 24 "LedgerKiln$Book" "count" "I", Cond.fieldLink RX5 32 "LedgerKiln$Copy" "first" "I"]
def wsL_copy_r3 : List Cond := [Cond.fieldLink RX5 35 "LedgerKiln$Copy" "sheet" "LLedgerKiln$Sheet;", Cond.fieldLink RX5 39 "LedgerKiln$Book" "now" "LLedgerKiln$Sheet;", Cond.fieldLink RX5 11 "LedgerKiln$Vault" "copies" "[LLedgerKiln$Copy;", Cond.methodLink RX5 29 yX1_init, Cond.instanceMethod yX1_init, Cond.code yX1_init cX1_init 4 none, Cond.methodLink RX1 1 objectInit, Cond.instanceMethod objectInit, Cond.code objectInit ⟨#[0xb1]⟩ 1 none, Cond.classLink RX1 7 RX4, Cond.instantiable RX4 2, Cond.fieldLink RX1 10 "LedgerKiln$Copy" "sheet" "LLedgerKiln$Sheet;", Cond.fieldLink RX1 16 "LedgerKiln$Copy" "inVault" "Z", Cond.fieldLink RX1 20 "LedgerKiln$Copy" "base" "LLedgerKiln$Copy;", Cond.fieldLink RX1 24 "LedgerKiln$Copy" "first" "I", Cond.fieldLink RX1 28 "LedgerKiln$Copy" "end" "I", Cond.instanceMethod yX4_init, Cond.code yX4_init cX4_init 1 none, Cond.methodLink RX4 3 objectInit, Cond.arrayClass .boolean, Cond.arrayClass .int, Cond.fieldLink RX4 15 "LedgerKiln$Sheet" "amounts" "[I", Cond.methodLink RX5 42 yX4_take, Cond.instanceMethod yX4_take]
def wsL_copy_r4 : List Cond := [Cond.selects RX4 yX4_take yX4_take, Cond.code yX4_take cX4_take 4 none]
def wsL_copy : List Cond := .codeWith yL_copy cL_copy 3 (some .int) [(0, 8, 11, 17)] :: ((wsL_copy_r1 ++ (wsL_copy_r2 ++ (wsL_copy_r3 ++ wsL_copy_r4))) ++ wsX60 ++ wsX50 ++ wsX00 ++ wsX40 ++ wsX10 ++ (vx_atS RX6 66 "java/lang/IllegalStateException" ["java/lang/RuntimeException", "java/lang/Exception"]).filter goodWord)
def wsL_copyFrom_r1 : List Cond := [Cond.classLink RL 13 "java/lang/IndexOutOfBoundsException", Cond.classLink RL 17 "java/lang/IllegalStateException", Cond.methodLink RL 40 yX6_copyFrom, Cond.instanceMethod yX6_copyFrom, Cond.selects RX6 yX6_copyFrom yX6_copyFrom, Cond.initialized RX6, Cond.code yX6_copyFrom cX6_copyFrom 3 (some .int), Cond.fieldLink RX6 29 "LedgerKiln" "vault" "LLedgerKiln$Vault;", Cond.fieldLink RX6 22 "LedgerKiln" "book" "LLedgerKiln$Book;", Cond.methodLink RX6 138 yX6_needCopy, Cond.instanceMethod yX6_needCopy, Cond.selects RX6 yX6_needCopy yX6_needCopy, Cond.code yX6_needCopy cX6_needCopy 3 (some (.object "LedgerKiln$Copy")), Cond.classLink RX6 304 "java/lang/IndexOutOfBoundsException", Cond.initialized "java/lang/IndexOutOfBoundsException", Cond.methodLink RX6 316 yX5_find, Cond.instanceMethod yX5_find, Cond.selects RX5 yX5_find yX5_find, Cond.initialized RX5, Cond.code yX5_find cX5_find 2 (some (.object "LedgerKiln$Copy")), Cond.fieldLink RX5 17 "LedgerKiln$Vault" "made" "I", Cond.fieldLink RX5 11 "LedgerKiln$Vault" "copies" "[LLedgerKiln$Copy;", Cond.methodLink RX6 131 yX6_needRoomForCopy, Cond.instanceMethod yX6_needRoomForCopy]
def wsL_copyFrom_r2 : List Cond := [Cond.selects RX6 yX6_needRoomForCopy yX6_needRoomForCopy, Cond.code yX6_needRoomForCopy cX6_needRoomForCopy 1 none, Cond.classLink RX6 62 "java/lang/IllegalStateException", Cond.initialized "java/lang/IllegalStateException", Cond.methodLink RX6 329 yX5_isFull, Cond.instanceMethod yX5_isFull, Cond.selects RX5 yX5_isFull yX5_isFull, Cond.code yX5_isFull cX5_isFull 1 (some .boolean), Cond.methodLink RX6 294 yX0_countBurnt, Cond.instanceMethod yX0_countBurnt, Cond.selects RX0 yX0_countBurnt yX0_countBurnt, Cond.initialized RX0, Cond.code yX0_countBurnt cX0_countBurnt 3 (some .int), Cond.fieldLink RX0 47 "LedgerKiln$Book" "count" "I", Cond.methodLink RX0 91 yX0_stateOf, Cond.instanceMethod yX0_stateOf, Cond.selects RX0 yX0_stateOf yX0_stateOf, Cond.code yX0_stateOf cX0_stateOf 2 (some .int), Cond.fieldLink RX0 34 "LedgerKiln$Book" "struck" "[Z", Cond.fieldLink RX0 44 "LedgerKiln$Book" "now" "LLedgerKiln$Sheet;", Cond.methodLink RX0 85 yX4_isFilled, Cond.instanceMethod yX4_isFilled, Cond.selects RX4 yX4_isFilled yX4_isFilled, Cond.initialized RX4]
def wsL_copyFrom_r3 : List Cond := [Cond.code yX4_isFilled cX4_isFilled 2 (some .boolean), Cond.fieldLink RX4 9 "LedgerKiln$Sheet" "filled" "[Z", Cond.methodLink RX6 134 yX5_make, Cond.instanceMethod yX5_make, Cond.selects RX5 yX5_make yX5_make, Cond.code yX5_make cX5_make 5 (some .int), Cond.classLink RX5 9 RX1, Cond.instantiable RX1 5, Cond.initialized RX1, Cond.fieldLink RX5 21 "LedgerKiln$Copy" "end" "I", Cond.fieldLink RX5 24 "LedgerKiln$Book" "count" "I", Cond.fieldLink RX5 32 "LedgerKiln$Copy" "first" "I", Cond.fieldLink RX5 35 "LedgerKiln$Copy" "sheet" "LLedgerKiln$Sheet;", Cond.fieldLink RX5 39 "LedgerKiln$Book" "now" "LLedgerKiln$Sheet;", Cond.methodLink RX5 29 yX1_init, Cond.instanceMethod yX1_init, Cond.code yX1_init cX1_init 4 none, Cond.methodLink RX1 1 objectInit, Cond.instanceMethod objectInit, Cond.code objectInit ⟨#[0xb1]⟩ 1 none, Cond.classLink RX1 7 RX4, Cond.instantiable RX4 2, Cond.fieldLink RX1 10 "LedgerKiln$Copy" "sheet" "LLedgerKiln$Sheet;", Cond.fieldLink RX1 16 "LedgerKiln$Copy" "inVault" "Z"]
def wsL_copyFrom_r4 : List Cond := [Cond.fieldLink RX1 20 "LedgerKiln$Copy" "base" "LLedgerKiln$Copy;", Cond.fieldLink RX1 24 "LedgerKiln$Copy" "first" "I", Cond.fieldLink RX1 28 "LedgerKiln$Copy" "end" "I", Cond.instanceMethod yX4_init, Cond.code yX4_init cX4_init 1 none, Cond.methodLink RX4 3 objectInit, Cond.arrayClass .boolean, Cond.arrayClass .int, Cond.fieldLink RX4 15 "LedgerKiln$Sheet" "amounts" "[I", Cond.methodLink RX5 42 yX4_take, Cond.instanceMethod yX4_take, Cond.selects RX4 yX4_take yX4_take, Cond.code yX4_take cX4_take 4 none]
def wsL_copyFrom : List Cond := .codeWith yL_copyFrom cL_copyFrom 4 (some .int) [(0, 9, 12, 13), (0, 9, 15, 17)] :: ((wsL_copyFrom_r1 ++ (wsL_copyFrom_r2 ++ (wsL_copyFrom_r3 ++ wsL_copyFrom_r4))) ++ wsX60 ++ wsX50 ++ wsX00 ++ wsX40 ++ wsX10 ++ (vx_atS RX6 308 "java/lang/IndexOutOfBoundsException" ["java/lang/RuntimeException", "java/lang/Exception"]).filter goodWord ++ (vx_atS RX6 66 "java/lang/IllegalStateException" ["java/lang/RuntimeException", "java/lang/Exception"]).filter goodWord)
def wsL_carry_r1 : List Cond := [Cond.classLink RL 13 "java/lang/IndexOutOfBoundsException", Cond.methodLink RL 43 yX6_carry, Cond.instanceMethod yX6_carry, Cond.selects RX6 yX6_carry yX6_carry, Cond.initialized RX6, Cond.code yX6_carry cX6_carry 4 (some .int), Cond.fieldLink RX6 142 "LedgerKiln$Copy" "inVault" "Z", Cond.fieldLink RX6 22 "LedgerKiln" "book" "LLedgerKiln$Book;", Cond.methodLink RX6 138 yX6_needCopy, Cond.instanceMethod yX6_needCopy, Cond.selects RX6 yX6_needCopy yX6_needCopy, Cond.code yX6_needCopy cX6_needCopy 3 (some (.object "LedgerKiln$Copy")), Cond.classLink RX6 304 "java/lang/IndexOutOfBoundsException", Cond.initialized "java/lang/IndexOutOfBoundsException", Cond.fieldLink RX6 29 "LedgerKiln" "vault" "LLedgerKiln$Vault;", Cond.methodLink RX6 316 yX5_find, Cond.instanceMethod yX5_find, Cond.selects RX5 yX5_find yX5_find, Cond.initialized RX5, Cond.code yX5_find cX5_find 2 (some (.object "LedgerKiln$Copy")), Cond.fieldLink RX5 17 "LedgerKiln$Vault" "made" "I", Cond.fieldLink RX5 11 "LedgerKiln$Vault" "copies" "[LLedgerKiln$Copy;", Cond.methodLink RX6 148 yX1_blankStruck, Cond.instanceMethod yX1_blankStruck]
def wsL_carry_r2 : List Cond := [Cond.selects RX1 yX1_blankStruck yX1_blankStruck, Cond.initialized RX1, Cond.code yX1_blankStruck cX1_blankStruck 4 (some .int), Cond.fieldLink RX1 24 "LedgerKiln$Copy" "first" "I", Cond.fieldLink RX1 28 "LedgerKiln$Copy" "end" "I", Cond.fieldLink RX1 31 "LedgerKiln$Book" "struck" "[Z", Cond.fieldLink RX1 10 "LedgerKiln$Copy" "sheet" "LLedgerKiln$Sheet;", Cond.methodLink RX1 37 yX4_blank, Cond.instanceMethod yX4_blank, Cond.selects RX4 yX4_blank yX4_blank, Cond.initialized RX4, Cond.code yX4_blank cX4_blank 4 (some .boolean), Cond.fieldLink RX4 9 "LedgerKiln$Sheet" "filled" "[Z", Cond.fieldLink RX4 15 "LedgerKiln$Sheet" "amounts" "[I"]
def wsL_carry : List Cond := .codeWith yL_carry cL_carry 5 (some .int) [(0, 10, 13, 13)] :: ((wsL_carry_r1 ++ wsL_carry_r2) ++ wsX10 ++ wsX60 ++ wsX50 ++ wsX00 ++ wsX40 ++ (vx_atS RX6 308 "java/lang/IndexOutOfBoundsException" ["java/lang/RuntimeException", "java/lang/Exception"]).filter goodWord)
def wsL_rot_r1 : List Cond := [Cond.classLink RL 13 "java/lang/IndexOutOfBoundsException", Cond.methodLink RL 47 yX6_rot, Cond.instanceMethod yX6_rot, Cond.selects RX6 yX6_rot yX6_rot, Cond.initialized RX6, Cond.code yX6_rot cX6_rot 4 (some .boolean), Cond.fieldLink RX6 156 "LedgerKiln$Copy" "sheet" "LLedgerKiln$Sheet;", Cond.methodLink RX6 138 yX6_needCopy, Cond.instanceMethod yX6_needCopy, Cond.selects RX6 yX6_needCopy yX6_needCopy, Cond.code yX6_needCopy cX6_needCopy 3 (some (.object "LedgerKiln$Copy")), Cond.classLink RX6 304 "java/lang/IndexOutOfBoundsException", Cond.initialized "java/lang/IndexOutOfBoundsException", Cond.fieldLink RX6 29 "LedgerKiln" "vault" "LLedgerKiln$Vault;", Cond.methodLink RX6 316 yX5_find, Cond.instanceMethod yX5_find, Cond.selects RX5 yX5_find yX5_find, Cond.initialized RX5, Cond.code yX5_find cX5_find 2 (some (.object "LedgerKiln$Copy")), Cond.fieldLink RX5 17 "LedgerKiln$Vault" "made" "I", Cond.fieldLink RX5 11 "LedgerKiln$Vault" "copies" "[LLedgerKiln$Copy;", Cond.methodLink RX6 152 yX6_needPageIn, Cond.static yX6_needPageIn, Cond.code yX6_needPageIn cX6_needPageIn 2 none]
def wsL_rot_r2 : List Cond := [Cond.fieldLink RX6 288 "LedgerKiln$Copy" "first" "I", Cond.fieldLink RX6 285 "LedgerKiln$Copy" "end" "I", Cond.methodLink RX6 111 yX4_blank, Cond.instanceMethod yX4_blank, Cond.selects RX4 yX4_blank yX4_blank, Cond.initialized RX4, Cond.code yX4_blank cX4_blank 4 (some .boolean), Cond.fieldLink RX4 9 "LedgerKiln$Sheet" "filled" "[Z", Cond.fieldLink RX4 15 "LedgerKiln$Sheet" "amounts" "[I"]
def wsL_rot : List Cond := .codeWith yL_rot cL_rot 5 (some .int) [(0, 17, 20, 13)] :: ((wsL_rot_r1 ++ wsL_rot_r2) ++ wsX10 ++ wsX60 ++ wsX50 ++ wsX40 ++ (vx_atS RX6 308 "java/lang/IndexOutOfBoundsException" ["java/lang/RuntimeException", "java/lang/Exception"]).filter goodWord)
def wsL_throwAway_r1 : List Cond := [Cond.classLink RL 13 "java/lang/IndexOutOfBoundsException", Cond.classLink RL 17 "java/lang/IllegalStateException", Cond.methodLink RL 51 yX6_throwAway, Cond.instanceMethod yX6_throwAway, Cond.selects RX6 yX6_throwAway yX6_throwAway, Cond.initialized RX6, Cond.code yX6_throwAway cX6_throwAway 3 (some .int), Cond.classLink RX6 62 "java/lang/IllegalStateException", Cond.initialized "java/lang/IllegalStateException", Cond.fieldLink RX6 29 "LedgerKiln" "vault" "LLedgerKiln$Vault;", Cond.fieldLink RX6 36 "LedgerKiln" "court" "LLedgerKiln$Court;", Cond.fieldLink RX6 22 "LedgerKiln" "book" "LLedgerKiln$Book;", Cond.methodLink RX6 138 yX6_needCopy, Cond.instanceMethod yX6_needCopy, Cond.selects RX6 yX6_needCopy yX6_needCopy, Cond.code yX6_needCopy cX6_needCopy 3 (some (.object "LedgerKiln$Copy")), Cond.classLink RX6 304 "java/lang/IndexOutOfBoundsException", Cond.initialized "java/lang/IndexOutOfBoundsException", Cond.methodLink RX6 316 yX5_find, Cond.instanceMethod yX5_find, Cond.selects RX5 yX5_find yX5_find, Cond.initialized RX5, Cond.code yX5_find cX5_find 2 (some (.object "LedgerKiln$Copy")), Cond.fieldLink RX5 17 "LedgerKiln$Vault" "made" "I"]
def wsL_throwAway_r2 : List Cond := [Cond.fieldLink RX5 11 "LedgerKiln$Vault" "copies" "[LLedgerKiln$Copy;", Cond.methodLink RX6 159 yX5_isBase, Cond.instanceMethod yX5_isBase, Cond.selects RX5 yX5_isBase yX5_isBase, Cond.code yX5_isBase cX5_isBase 4 (some .boolean), Cond.fieldLink RX5 48 "LedgerKiln$Copy" "base" "LLedgerKiln$Copy;", Cond.methodLink RX6 163 yX2_holdsAnyIn, Cond.instanceMethod yX2_holdsAnyIn, Cond.selects RX2 yX2_holdsAnyIn yX2_holdsAnyIn, Cond.initialized RX2, Cond.code yX2_holdsAnyIn cX2_holdsAnyIn 4 (some .boolean), Cond.fieldLink RX2 51 "LedgerKiln$Copy" "first" "I", Cond.fieldLink RX2 56 "LedgerKiln$Copy" "end" "I", Cond.fieldLink RX2 59 "LedgerKiln$Copy" "sheet" "LLedgerKiln$Sheet;", Cond.methodLink RX2 63 yX4_isFilled, Cond.instanceMethod yX4_isFilled, Cond.selects RX4 yX4_isFilled yX4_isFilled, Cond.initialized RX4, Cond.code yX4_isFilled cX4_isFilled 2 (some .boolean), Cond.fieldLink RX4 9 "LedgerKiln$Sheet" "filled" "[Z", Cond.methodLink RX2 47 yX2_holdersOf, Cond.instanceMethod yX2_holdersOf, Cond.selects RX2 yX2_holdersOf yX2_holdersOf, Cond.code yX2_holdersOf cX2_holdersOf 7 (some .int)]
def wsL_throwAway_r3 : List Cond := [Cond.fieldLink RX2 35 "LedgerKiln$Book" "days" "[I", Cond.fieldLink RX2 32 "LedgerKiln$Court" "holds" "I", Cond.fieldLink RX2 26 "LedgerKiln$Court" "holdFroms" "[I", Cond.fieldLink RX2 29 "LedgerKiln$Court" "holdTos" "[I", Cond.fieldLink RX2 9 "LedgerKiln$Court" "running" "[Z", Cond.fieldLink RX2 19 "LedgerKiln$Court" "holdCases" "[I", Cond.fieldLink RX2 23 "LedgerKiln$Court" "holdAccounts" "[I", Cond.methodLink RX2 40 yX0_hasLegFor, Cond.instanceMethod yX0_hasLegFor, Cond.selects RX0 yX0_hasLegFor yX0_hasLegFor, Cond.initialized RX0, Cond.code yX0_hasLegFor cX0_hasLegFor 4 (some .boolean), Cond.fieldLink RX0 21 "LedgerKiln$Book" "legCounts" "[I", Cond.fieldLink RX0 24 "LedgerKiln$Book" "accounts" "[I", Cond.methodLink RX6 169 yX5_remove, Cond.instanceMethod yX5_remove, Cond.selects RX5 yX5_remove yX5_remove, Cond.code yX5_remove cX5_remove 2 none, Cond.methodLink RX6 172 yX5_countThere, Cond.instanceMethod yX5_countThere, Cond.selects RX5 yX5_countThere yX5_countThere, Cond.code yX5_countThere cX5_countThere 3 (some .int)]
def wsL_throwAway : List Cond := .codeWith yL_throwAway cL_throwAway 4 (some .int) [(0, 9, 12, 13), (0, 9, 15, 17)] :: ((wsL_throwAway_r1 ++ (wsL_throwAway_r2 ++ wsL_throwAway_r3)) ++ wsX60 ++ wsX50 ++ wsX10 ++ wsX40 ++ wsX00 ++ wsX20 ++ (vx_atS RX6 66 "java/lang/IllegalStateException" ["java/lang/RuntimeException", "java/lang/Exception"]).filter goodWord ++ (vx_atS RX6 308 "java/lang/IndexOutOfBoundsException" ["java/lang/RuntimeException", "java/lang/Exception"]).filter goodWord)
def wsL_restore_r1 : List Cond := [Cond.classLink RL 13 "java/lang/IndexOutOfBoundsException", Cond.classLink RL 17 "java/lang/IllegalStateException", Cond.methodLink RL 54 yX6_restore, Cond.instanceMethod yX6_restore, Cond.selects RX6 yX6_restore yX6_restore, Cond.initialized RX6, Cond.code yX6_restore cX6_restore 5 (some .int), Cond.classLink RX6 62 "java/lang/IllegalStateException", Cond.initialized "java/lang/IllegalStateException", Cond.fieldLink RX6 22 "LedgerKiln" "book" "LLedgerKiln$Book;", Cond.fieldLink RX6 183 "LedgerKiln$Copy" "base" "LLedgerKiln$Copy;", Cond.methodLink RX6 138 yX6_needCopy, Cond.instanceMethod yX6_needCopy, Cond.selects RX6 yX6_needCopy yX6_needCopy, Cond.code yX6_needCopy cX6_needCopy 3 (some (.object "LedgerKiln$Copy")), Cond.classLink RX6 304 "java/lang/IndexOutOfBoundsException", Cond.initialized "java/lang/IndexOutOfBoundsException", Cond.fieldLink RX6 29 "LedgerKiln" "vault" "LLedgerKiln$Vault;", Cond.methodLink RX6 316 yX5_find, Cond.instanceMethod yX5_find, Cond.selects RX5 yX5_find yX5_find, Cond.initialized RX5, Cond.code yX5_find cX5_find 2 (some (.object "LedgerKiln$Copy")), Cond.fieldLink RX5 17 "LedgerKiln$Vault" "made" "I"]
def wsL_restore_r2 : List Cond := [Cond.fieldLink RX5 11 "LedgerKiln$Vault" "copies" "[LLedgerKiln$Copy;", Cond.methodLink RX6 175 yX1_isChainInVault, Cond.instanceMethod yX1_isChainInVault, Cond.selects RX1 yX1_isChainInVault yX1_isChainInVault, Cond.initialized RX1, Cond.code yX1_isChainInVault cX1_isChainInVault 2 (some .boolean), Cond.fieldLink RX1 16 "LedgerKiln$Copy" "inVault" "Z", Cond.fieldLink RX1 20 "LedgerKiln$Copy" "base" "LLedgerKiln$Copy;", Cond.methodLink RX6 180 yX1_giveBack, Cond.instanceMethod yX1_giveBack, Cond.selects RX1 yX1_giveBack yX1_giveBack, Cond.code yX1_giveBack cX1_giveBack 5 (some .int), Cond.fieldLink RX1 24 "LedgerKiln$Copy" "first" "I", Cond.fieldLink RX1 28 "LedgerKiln$Copy" "end" "I", Cond.fieldLink RX1 31 "LedgerKiln$Book" "struck" "[Z", Cond.fieldLink RX1 41 "LedgerKiln$Book" "now" "LLedgerKiln$Sheet;", Cond.fieldLink RX1 10 "LedgerKiln$Copy" "sheet" "LLedgerKiln$Sheet;", Cond.methodLink RX1 44 yX0_isTrueOn, Cond.instanceMethod yX0_isTrueOn, Cond.selects RX0 yX0_isTrueOn yX0_isTrueOn, Cond.initialized RX0, Cond.code yX0_isTrueOn cX0_isTrueOn 3 (some .boolean), Cond.fieldLink RX0 40 "LedgerKiln$Book" "written" "LLedgerKiln$Sheet;", Cond.methodLink RX0 88 yX4_isLike]
def wsL_restore_r3 : List Cond := [Cond.instanceMethod yX4_isLike, Cond.selects RX4 yX4_isLike yX4_isLike, Cond.initialized RX4, Cond.code yX4_isLike cX4_isLike 4 (some .boolean), Cond.fieldLink RX4 9 "LedgerKiln$Sheet" "filled" "[Z", Cond.methodLink RX4 26 yX4_amountOf, Cond.instanceMethod yX4_amountOf, Cond.selects RX4 yX4_amountOf yX4_amountOf, Cond.code yX4_amountOf cX4_amountOf 3 (some .int), Cond.fieldLink RX4 15 "LedgerKiln$Sheet" "amounts" "[I", Cond.methodLink RX1 48 yX4_take, Cond.instanceMethod yX4_take, Cond.selects RX4 yX4_take yX4_take, Cond.code yX4_take cX4_take 4 none]
def wsL_restore : List Cond := .codeWith yL_restore cL_restore 4 (some .int) [(0, 9, 12, 13), (0, 9, 15, 17)] :: ((wsL_restore_r1 ++ (wsL_restore_r2 ++ wsL_restore_r3)) ++ wsX60 ++ wsX10 ++ wsX50 ++ wsX00 ++ wsX40 ++ (vx_atS RX6 66 "java/lang/IllegalStateException" ["java/lang/RuntimeException", "java/lang/Exception"]).filter goodWord ++ (vx_atS RX6 308 "java/lang/IndexOutOfBoundsException" ["java/lang/RuntimeException", "java/lang/Exception"]).filter goodWord)
def wsL_open : List Cond := .codeWith yL_open cL_open 3 (some .int) [(0, 8, 11, 17)] :: ([.classLink RL 17 "java/lang/IllegalStateException", .methodLink RL 57 yX6_open, .instanceMethod yX6_open, .selects RX6 yX6_open yX6_open, .initialized RX6, .code yX6_open cX6_open 1 (some .int), .classLink RX6 62 "java/lang/IllegalStateException", .initialized "java/lang/IllegalStateException", .fieldLink RX6 36 "LedgerKiln" "court" "LLedgerKiln$Court;", .methodLink RX6 187 yX2_isFull, .instanceMethod yX2_isFull, .selects RX2 yX2_isFull yX2_isFull, .initialized RX2, .code yX2_isFull cX2_isFull 1 (some .boolean), .fieldLink RX2 15 "LedgerKiln$Court" "opened" "I", .methodLink RX6 190 yX2_openNext, .instanceMethod yX2_openNext, .selects RX2 yX2_openNext yX2_openNext, .code yX2_openNext cX2_openNext 1 (some .int), .fieldLink RX2 9 "LedgerKiln$Court" "running" "[Z"] ++ wsX60 ++ wsX20 ++ (vx_atS RX6 66 "java/lang/IllegalStateException" ["java/lang/RuntimeException", "java/lang/Exception"]).filter goodWord)
def wsL_close_r1 : List Cond := [Cond.classLink RL 13 "java/lang/IndexOutOfBoundsException", Cond.classLink RL 17 "java/lang/IllegalStateException", Cond.methodLink RL 60 yX6_close, Cond.instanceMethod yX6_close, Cond.selects RX6 yX6_close yX6_close, Cond.initialized RX6, Cond.code yX6_close cX6_close 3 (some .int), Cond.classLink RX6 62 "java/lang/IllegalStateException", Cond.initialized "java/lang/IllegalStateException", Cond.fieldLink RX6 36 "LedgerKiln" "court" "LLedgerKiln$Court;", Cond.fieldLink RX6 196 "LedgerKiln$Court" "running" "[Z", Cond.fieldLink RX6 22 "LedgerKiln" "book" "LLedgerKiln$Book;", Cond.methodLink RX6 193 yX6_needCase, Cond.instanceMethod yX6_needCase, Cond.selects RX6 yX6_needCase yX6_needCase, Cond.code yX6_needCase cX6_needCase 2 none, Cond.classLink RX6 304 "java/lang/IndexOutOfBoundsException", Cond.initialized "java/lang/IndexOutOfBoundsException", Cond.fieldLink RX6 311 "LedgerKiln$Court" "opened" "I", Cond.methodLink RX6 202 yX2_countHeldAlone, Cond.instanceMethod yX2_countHeldAlone, Cond.selects RX2 yX2_countHeldAlone yX2_countHeldAlone, Cond.initialized RX2, Cond.code yX2_countHeldAlone cX2_countHeldAlone 5 (some .int)]
def wsL_close_r2 : List Cond := [Cond.fieldLink RX2 44 "LedgerKiln$Book" "count" "I", Cond.methodLink RX2 47 yX2_holdersOf, Cond.instanceMethod yX2_holdersOf, Cond.selects RX2 yX2_holdersOf yX2_holdersOf, Cond.code yX2_holdersOf cX2_holdersOf 7 (some .int), Cond.fieldLink RX2 35 "LedgerKiln$Book" "days" "[I", Cond.fieldLink RX2 32 "LedgerKiln$Court" "holds" "I", Cond.fieldLink RX2 26 "LedgerKiln$Court" "holdFroms" "[I", Cond.fieldLink RX2 29 "LedgerKiln$Court" "holdTos" "[I", Cond.fieldLink RX2 9 "LedgerKiln$Court" "running" "[Z", Cond.fieldLink RX2 19 "LedgerKiln$Court" "holdCases" "[I", Cond.fieldLink RX2 23 "LedgerKiln$Court" "holdAccounts" "[I", Cond.methodLink RX2 40 yX0_hasLegFor, Cond.instanceMethod yX0_hasLegFor, Cond.selects RX0 yX0_hasLegFor yX0_hasLegFor, Cond.initialized RX0, Cond.code yX0_hasLegFor cX0_hasLegFor 4 (some .boolean), Cond.fieldLink RX0 21 "LedgerKiln$Book" "legCounts" "[I", Cond.fieldLink RX0 24 "LedgerKiln$Book" "accounts" "[I"]
def wsL_close : List Cond := .codeWith yL_close cL_close 4 (some .int) [(0, 9, 12, 13), (0, 9, 15, 17)] :: ((wsL_close_r1 ++ wsL_close_r2) ++ wsX60 ++ wsX20 ++ wsX00 ++ (vx_atS RX6 66 "java/lang/IllegalStateException" ["java/lang/RuntimeException", "java/lang/Exception"]).filter goodWord ++ (vx_atS RX6 308 "java/lang/IndexOutOfBoundsException" ["java/lang/RuntimeException", "java/lang/Exception"]).filter goodWord)
def wsL_hold_r1 : List Cond := [Cond.classLink RL 13 "java/lang/IndexOutOfBoundsException", Cond.classLink RL 15 "java/lang/IllegalArgumentException", Cond.classLink RL 17 "java/lang/IllegalStateException", Cond.methodLink RL 63 yX6_hold, Cond.instanceMethod yX6_hold, Cond.selects RX6 yX6_hold yX6_hold, Cond.initialized RX6, Cond.code yX6_hold cX6_hold 5 (some .int), Cond.classLink RX6 51 "java/lang/IllegalArgumentException", Cond.initialized "java/lang/IllegalArgumentException", Cond.classLink RX6 62 "java/lang/IllegalStateException", Cond.initialized "java/lang/IllegalStateException", Cond.fieldLink RX6 36 "LedgerKiln" "court" "LLedgerKiln$Court;", Cond.fieldLink RX6 196 "LedgerKiln$Court" "running" "[Z", Cond.fieldLink RX6 22 "LedgerKiln" "book" "LLedgerKiln$Book;", Cond.methodLink RX6 193 yX6_needCase, Cond.instanceMethod yX6_needCase, Cond.selects RX6 yX6_needCase yX6_needCase, Cond.code yX6_needCase cX6_needCase 2 none, Cond.classLink RX6 304 "java/lang/IndexOutOfBoundsException", Cond.initialized "java/lang/IndexOutOfBoundsException", Cond.fieldLink RX6 311 "LedgerKiln$Court" "opened" "I", Cond.methodLink RX6 44 yX6_needAccount, Cond.static yX6_needAccount]
def wsL_hold_r2 : List Cond := [Cond.code yX6_needAccount cX6_needAccount 1 none, Cond.methodLink RX6 208 yX2_hasAllHolds, Cond.instanceMethod yX2_hasAllHolds, Cond.selects RX2 yX2_hasAllHolds yX2_hasAllHolds, Cond.initialized RX2, Cond.code yX2_hasAllHolds cX2_hasAllHolds 1 (some .boolean), Cond.fieldLink RX2 32 "LedgerKiln$Court" "holds" "I", Cond.methodLink RX6 213 yX2_addHold, Cond.instanceMethod yX2_addHold, Cond.selects RX2 yX2_addHold yX2_addHold, Cond.code yX2_addHold cX2_addHold 5 none, Cond.fieldLink RX2 19 "LedgerKiln$Court" "holdCases" "[I", Cond.fieldLink RX2 23 "LedgerKiln$Court" "holdAccounts" "[I", Cond.fieldLink RX2 26 "LedgerKiln$Court" "holdFroms" "[I", Cond.fieldLink RX2 29 "LedgerKiln$Court" "holdTos" "[I", Cond.methodLink RX6 217 yX2_countHeld, Cond.instanceMethod yX2_countHeld, Cond.selects RX2 yX2_countHeld yX2_countHeld, Cond.code yX2_countHeld cX2_countHeld 5 (some .int), Cond.fieldLink RX2 44 "LedgerKiln$Book" "count" "I", Cond.methodLink RX2 47 yX2_holdersOf, Cond.instanceMethod yX2_holdersOf, Cond.selects RX2 yX2_holdersOf yX2_holdersOf, Cond.code yX2_holdersOf cX2_holdersOf 7 (some .int)]
def wsL_hold_r3 : List Cond := [Cond.fieldLink RX2 35 "LedgerKiln$Book" "days" "[I", Cond.fieldLink RX2 9 "LedgerKiln$Court" "running" "[Z", Cond.methodLink RX2 40 yX0_hasLegFor, Cond.instanceMethod yX0_hasLegFor, Cond.selects RX0 yX0_hasLegFor yX0_hasLegFor, Cond.initialized RX0, Cond.code yX0_hasLegFor cX0_hasLegFor 4 (some .boolean), Cond.fieldLink RX0 21 "LedgerKiln$Book" "legCounts" "[I", Cond.fieldLink RX0 24 "LedgerKiln$Book" "accounts" "[I"]
def wsL_hold : List Cond := .codeWith yL_hold cL_hold 7 (some .int) [(0, 14, 17, 13), (0, 14, 21, 15), (0, 14, 25, 17)] :: ((wsL_hold_r1 ++ (wsL_hold_r2 ++ wsL_hold_r3)) ++ wsX60 ++ wsX20 ++ wsX00 ++ (vx_atS RX6 55 "java/lang/IllegalArgumentException" ["java/lang/RuntimeException", "java/lang/Exception"]).filter goodWord ++ (vx_atS RX6 66 "java/lang/IllegalStateException" ["java/lang/RuntimeException", "java/lang/Exception"]).filter goodWord ++ (vx_atS RX6 308 "java/lang/IndexOutOfBoundsException" ["java/lang/RuntimeException", "java/lang/Exception"]).filter goodWord)
def wsL_strike_r1 : List Cond := [Cond.classLink RL 13 "java/lang/IndexOutOfBoundsException", Cond.classLink RL 17 "java/lang/IllegalStateException", Cond.methodLink RL 67 yX6_strike, Cond.instanceMethod yX6_strike, Cond.selects RX6 yX6_strike yX6_strike, Cond.initialized RX6, Cond.code yX6_strike cX6_strike 3 (some .int), Cond.classLink RX6 62 "java/lang/IllegalStateException", Cond.initialized "java/lang/IllegalStateException", Cond.fieldLink RX6 36 "LedgerKiln" "court" "LLedgerKiln$Court;", Cond.fieldLink RX6 22 "LedgerKiln" "book" "LLedgerKiln$Book;", Cond.fieldLink RX6 29 "LedgerKiln" "vault" "LLedgerKiln$Vault;", Cond.methodLink RX6 193 yX6_needCase, Cond.instanceMethod yX6_needCase, Cond.selects RX6 yX6_needCase yX6_needCase, Cond.code yX6_needCase cX6_needCase 2 none, Cond.classLink RX6 304 "java/lang/IndexOutOfBoundsException", Cond.initialized "java/lang/IndexOutOfBoundsException", Cond.fieldLink RX6 311 "LedgerKiln$Court" "opened" "I", Cond.methodLink RX6 88 yX6_needPage, Cond.instanceMethod yX6_needPage, Cond.selects RX6 yX6_needPage yX6_needPage, Cond.code yX6_needPage cX6_needPage 2 none, Cond.fieldLink RX6 233 "LedgerKiln$Book" "count" "I"]
def wsL_strike_r2 : List Cond := [Cond.methodLink RX6 220 yX2_maySentence, Cond.instanceMethod yX2_maySentence, Cond.selects RX2 yX2_maySentence yX2_maySentence, Cond.initialized RX2, Cond.code yX2_maySentence cX2_maySentence 5 (some .boolean), Cond.fieldLink RX2 9 "LedgerKiln$Court" "running" "[Z", Cond.fieldLink RX2 69 "LedgerKiln$Book" "now" "LLedgerKiln$Sheet;", Cond.methodLink RX2 47 yX2_holdersOf, Cond.instanceMethod yX2_holdersOf, Cond.selects RX2 yX2_holdersOf yX2_holdersOf, Cond.code yX2_holdersOf cX2_holdersOf 7 (some .int), Cond.fieldLink RX2 35 "LedgerKiln$Book" "days" "[I", Cond.fieldLink RX2 32 "LedgerKiln$Court" "holds" "I", Cond.fieldLink RX2 26 "LedgerKiln$Court" "holdFroms" "[I", Cond.fieldLink RX2 29 "LedgerKiln$Court" "holdTos" "[I", Cond.fieldLink RX2 19 "LedgerKiln$Court" "holdCases" "[I", Cond.fieldLink RX2 23 "LedgerKiln$Court" "holdAccounts" "[I", Cond.methodLink RX2 40 yX0_hasLegFor, Cond.instanceMethod yX0_hasLegFor, Cond.selects RX0 yX0_hasLegFor yX0_hasLegFor, Cond.initialized RX0, Cond.code yX0_hasLegFor cX0_hasLegFor 4 (some .boolean), Cond.fieldLink RX0 21 "LedgerKiln$Book" "legCounts" "[I", Cond.fieldLink RX0 24 "LedgerKiln$Book" "accounts" "[I"]
def wsL_strike_r3 : List Cond := [Cond.methodLink RX2 72 yX0_isTrueOn, Cond.instanceMethod yX0_isTrueOn, Cond.selects RX0 yX0_isTrueOn yX0_isTrueOn, Cond.code yX0_isTrueOn cX0_isTrueOn 3 (some .boolean), Cond.fieldLink RX0 40 "LedgerKiln$Book" "written" "LLedgerKiln$Sheet;", Cond.methodLink RX0 88 yX4_isLike, Cond.instanceMethod yX4_isLike, Cond.selects RX4 yX4_isLike yX4_isLike, Cond.initialized RX4, Cond.code yX4_isLike cX4_isLike 4 (some .boolean), Cond.fieldLink RX4 9 "LedgerKiln$Sheet" "filled" "[Z", Cond.methodLink RX4 26 yX4_amountOf, Cond.instanceMethod yX4_amountOf, Cond.selects RX4 yX4_amountOf yX4_amountOf, Cond.code yX4_amountOf cX4_amountOf 3 (some .int), Cond.fieldLink RX4 15 "LedgerKiln$Sheet" "amounts" "[I", Cond.methodLink RX6 226 yX0_markStruck, Cond.instanceMethod yX0_markStruck, Cond.selects RX0 yX0_markStruck yX0_markStruck, Cond.code yX0_markStruck cX0_markStruck 2 none, Cond.fieldLink RX0 34 "LedgerKiln$Book" "struck" "[Z", Cond.fieldLink RX0 44 "LedgerKiln$Book" "now" "LLedgerKiln$Sheet;", Cond.methodLink RX0 81 yX4_blank, Cond.instanceMethod yX4_blank]
def wsL_strike_r4 : List Cond := [Cond.selects RX4 yX4_blank yX4_blank, Cond.code yX4_blank cX4_blank 4 (some .boolean), Cond.methodLink RX6 229 yX5_blankInVault, Cond.instanceMethod yX5_blankInVault, Cond.selects RX5 yX5_blankInVault yX5_blankInVault, Cond.initialized RX5, Cond.code yX5_blankInVault cX5_blankInVault 4 (some .int), Cond.fieldLink RX5 17 "LedgerKiln$Vault" "made" "I", Cond.fieldLink RX5 11 "LedgerKiln$Vault" "copies" "[LLedgerKiln$Copy;", Cond.fieldLink RX5 56 "LedgerKiln$Copy" "inVault" "Z", Cond.fieldLink RX5 35 "LedgerKiln$Copy" "sheet" "LLedgerKiln$Sheet;", Cond.methodLink RX5 60 yX4_blank, Cond.methodLink RX5 63 yX5_countFilled, Cond.instanceMethod yX5_countFilled, Cond.selects RX5 yX5_countFilled yX5_countFilled, Cond.code yX5_countFilled cX5_countFilled 5 (some .int), Cond.methodLink RX5 52 yX4_isFilled, Cond.instanceMethod yX4_isFilled, Cond.selects RX4 yX4_isFilled yX4_isFilled, Cond.code yX4_isFilled cX4_isFilled 2 (some .boolean)]
def wsL_strike : List Cond := .codeWith yL_strike cL_strike 5 (some .int) [(0, 10, 13, 13), (0, 10, 17, 17)] :: ((wsL_strike_r1 ++ (wsL_strike_r2 ++ (wsL_strike_r3 ++ wsL_strike_r4))) ++ wsX60 ++ wsX20 ++ wsX00 ++ wsX40 ++ wsX50 ++ wsX10 ++ (vx_atS RX6 66 "java/lang/IllegalStateException" ["java/lang/RuntimeException", "java/lang/Exception"]).filter goodWord ++ (vx_atS RX6 308 "java/lang/IndexOutOfBoundsException" ["java/lang/RuntimeException", "java/lang/Exception"]).filter goodWord)
def wsL_state_r1 : List Cond := [Cond.classLink RL 13 "java/lang/IndexOutOfBoundsException", Cond.methodLink RL 70 yX6_state, Cond.instanceMethod yX6_state, Cond.selects RX6 yX6_state yX6_state, Cond.initialized RX6, Cond.code yX6_state cX6_state 2 (some .int), Cond.fieldLink RX6 22 "LedgerKiln" "book" "LLedgerKiln$Book;", Cond.methodLink RX6 88 yX6_needPage, Cond.instanceMethod yX6_needPage, Cond.selects RX6 yX6_needPage yX6_needPage, Cond.code yX6_needPage cX6_needPage 2 none, Cond.classLink RX6 304 "java/lang/IndexOutOfBoundsException", Cond.initialized "java/lang/IndexOutOfBoundsException", Cond.fieldLink RX6 233 "LedgerKiln$Book" "count" "I", Cond.methodLink RX6 236 yX0_stateOf, Cond.instanceMethod yX0_stateOf, Cond.selects RX0 yX0_stateOf yX0_stateOf, Cond.initialized RX0, Cond.code yX0_stateOf cX0_stateOf 2 (some .int), Cond.fieldLink RX0 34 "LedgerKiln$Book" "struck" "[Z", Cond.fieldLink RX0 44 "LedgerKiln$Book" "now" "LLedgerKiln$Sheet;", Cond.methodLink RX0 85 yX4_isFilled, Cond.instanceMethod yX4_isFilled, Cond.selects RX4 yX4_isFilled yX4_isFilled]
def wsL_state_r2 : List Cond := [Cond.initialized RX4, Cond.code yX4_isFilled cX4_isFilled 2 (some .boolean), Cond.fieldLink RX4 9 "LedgerKiln$Sheet" "filled" "[Z"]
def wsL_state : List Cond := .codeWith yL_state cL_state 4 (some .int) [(0, 9, 12, 13)] :: ((wsL_state_r1 ++ wsL_state_r2) ++ wsX60 ++ wsX00 ++ wsX40 ++ (vx_atS RX6 308 "java/lang/IndexOutOfBoundsException" ["java/lang/RuntimeException", "java/lang/Exception"]).filter goodWord)
def wsL_isTrue_r1 : List Cond := [Cond.classLink RL 13 "java/lang/IndexOutOfBoundsException", Cond.methodLink RL 73 yX6_isTrue, Cond.instanceMethod yX6_isTrue, Cond.selects RX6 yX6_isTrue yX6_isTrue, Cond.initialized RX6, Cond.code yX6_isTrue cX6_isTrue 2 (some .boolean), Cond.fieldLink RX6 22 "LedgerKiln" "book" "LLedgerKiln$Book;", Cond.fieldLink RX6 107 "LedgerKiln$Book" "now" "LLedgerKiln$Sheet;", Cond.methodLink RX6 88 yX6_needPage, Cond.instanceMethod yX6_needPage, Cond.selects RX6 yX6_needPage yX6_needPage, Cond.code yX6_needPage cX6_needPage 2 none, Cond.classLink RX6 304 "java/lang/IndexOutOfBoundsException", Cond.initialized "java/lang/IndexOutOfBoundsException", Cond.fieldLink RX6 233 "LedgerKiln$Book" "count" "I", Cond.methodLink RX6 239 yX0_isTrueOn, Cond.instanceMethod yX0_isTrueOn, Cond.selects RX0 yX0_isTrueOn yX0_isTrueOn, Cond.initialized RX0, Cond.code yX0_isTrueOn cX0_isTrueOn 3 (some .boolean), Cond.fieldLink RX0 40 "LedgerKiln$Book" "written" "LLedgerKiln$Sheet;", Cond.methodLink RX0 88 yX4_isLike, Cond.instanceMethod yX4_isLike, Cond.selects RX4 yX4_isLike yX4_isLike]
def wsL_isTrue_r2 : List Cond := [Cond.initialized RX4, Cond.code yX4_isLike cX4_isLike 4 (some .boolean), Cond.fieldLink RX4 9 "LedgerKiln$Sheet" "filled" "[Z", Cond.methodLink RX4 26 yX4_amountOf, Cond.instanceMethod yX4_amountOf, Cond.selects RX4 yX4_amountOf yX4_amountOf, Cond.code yX4_amountOf cX4_amountOf 3 (some .int), Cond.fieldLink RX4 15 "LedgerKiln$Sheet" "amounts" "[I"]
def wsL_isTrue : List Cond := .codeWith yL_isTrue cL_isTrue 4 (some .int) [(0, 16, 19, 13)] :: ((wsL_isTrue_r1 ++ wsL_isTrue_r2) ++ wsX60 ++ wsX00 ++ wsX40 ++ (vx_atS RX6 308 "java/lang/IndexOutOfBoundsException" ["java/lang/RuntimeException", "java/lang/Exception"]).filter goodWord)
def wsL_text : List Cond := .codeWith yL_text cL_text 4 (some .int) [(0, 9, 12, 13)] :: ([.classLink RL 13 "java/lang/IndexOutOfBoundsException", .methodLink RL 77 yX6_text, .instanceMethod yX6_text, .selects RX6 yX6_text yX6_text, .initialized RX6, .code yX6_text cX6_text 2 (some .int), .fieldLink RX6 22 "LedgerKiln" "book" "LLedgerKiln$Book;", .fieldLink RX6 107 "LedgerKiln$Book" "now" "LLedgerKiln$Sheet;", .fieldLink RX6 243 "LedgerKiln$Book" "texts" "[I", .methodLink RX6 88 yX6_needPage, .instanceMethod yX6_needPage, .selects RX6 yX6_needPage yX6_needPage, .code yX6_needPage cX6_needPage 2 none, .classLink RX6 304 "java/lang/IndexOutOfBoundsException", .initialized "java/lang/IndexOutOfBoundsException", .fieldLink RX6 233 "LedgerKiln$Book" "count" "I", .methodLink RX6 118 yX4_isFilled, .instanceMethod yX4_isFilled, .selects RX4 yX4_isFilled yX4_isFilled, .initialized RX4, .code yX4_isFilled cX4_isFilled 2 (some .boolean), .fieldLink RX4 9 "LedgerKiln$Sheet" "filled" "[Z"] ++ wsX60 ++ wsX00 ++ wsX40 ++ (vx_atS RX6 308 "java/lang/IndexOutOfBoundsException" ["java/lang/RuntimeException", "java/lang/Exception"]).filter goodWord)
def wsL_mark : List Cond := .codeWith yL_mark cL_mark 4 (some .int) [(0, 9, 12, 13)] :: ([.classLink RL 13 "java/lang/IndexOutOfBoundsException", .methodLink RL 80 yX6_mark, .instanceMethod yX6_mark, .selects RX6 yX6_mark yX6_mark, .initialized RX6, .code yX6_mark cX6_mark 2 (some .int), .fieldLink RX6 22 "LedgerKiln" "book" "LLedgerKiln$Book;", .fieldLink RX6 246 "LedgerKiln$Book" "marks" "[I", .methodLink RX6 88 yX6_needPage, .instanceMethod yX6_needPage, .selects RX6 yX6_needPage yX6_needPage, .code yX6_needPage cX6_needPage 2 none, .classLink RX6 304 "java/lang/IndexOutOfBoundsException", .initialized "java/lang/IndexOutOfBoundsException", .fieldLink RX6 233 "LedgerKiln$Book" "count" "I"] ++ wsX60 ++ wsX00 ++ (vx_atS RX6 308 "java/lang/IndexOutOfBoundsException" ["java/lang/RuntimeException", "java/lang/Exception"]).filter goodWord)
def wsL_reversal : List Cond := .codeWith yL_reversal cL_reversal 4 (some .int) [(0, 9, 12, 13)] :: ([.classLink RL 13 "java/lang/IndexOutOfBoundsException", .methodLink RL 83 yX6_reversal, .instanceMethod yX6_reversal, .selects RX6 yX6_reversal yX6_reversal, .initialized RX6, .code yX6_reversal cX6_reversal 2 (some .int), .fieldLink RX6 22 "LedgerKiln" "book" "LLedgerKiln$Book;", .fieldLink RX6 249 "LedgerKiln$Book" "reversals" "[I", .methodLink RX6 88 yX6_needPage, .instanceMethod yX6_needPage, .selects RX6 yX6_needPage yX6_needPage, .code yX6_needPage cX6_needPage 2 none, .classLink RX6 304 "java/lang/IndexOutOfBoundsException", .initialized "java/lang/IndexOutOfBoundsException", .fieldLink RX6 233 "LedgerKiln$Book" "count" "I"] ++ wsX60 ++ wsX00 ++ (vx_atS RX6 308 "java/lang/IndexOutOfBoundsException" ["java/lang/RuntimeException", "java/lang/Exception"]).filter goodWord)
def wsL_proves_r1 : List Cond := [Cond.classLink RL 13 "java/lang/IndexOutOfBoundsException", Cond.classLink RL 15 "java/lang/IllegalArgumentException", Cond.methodLink RL 86 yX6_proves, Cond.instanceMethod yX6_proves, Cond.selects RX6 yX6_proves yX6_proves, Cond.initialized RX6, Cond.code yX6_proves cX6_proves 3 (some .boolean), Cond.fieldLink RX6 10 "LedgerKiln" "draft" "LLedgerKiln$Legs;", Cond.fieldLink RX6 22 "LedgerKiln" "book" "LLedgerKiln$Book;", Cond.fieldLink RX6 252 "LedgerKiln$Book" "days" "[I", Cond.fieldLink RX6 246 "LedgerKiln$Book" "marks" "[I", Cond.methodLink RX6 88 yX6_needPage, Cond.instanceMethod yX6_needPage, Cond.selects RX6 yX6_needPage yX6_needPage, Cond.code yX6_needPage cX6_needPage 2 none, Cond.classLink RX6 304 "java/lang/IndexOutOfBoundsException", Cond.initialized "java/lang/IndexOutOfBoundsException", Cond.fieldLink RX6 233 "LedgerKiln$Book" "count" "I", Cond.methodLink RX6 75 yX6_needText, Cond.static yX6_needText, Cond.code yX6_needText cX6_needText 1 none, Cond.classLink RX6 51 "java/lang/IllegalArgumentException", Cond.initialized "java/lang/IllegalArgumentException", Cond.methodLink RX6 255 yX3_markWith]
def wsL_proves_r2 : List Cond := [Cond.instanceMethod yX3_markWith, Cond.selects RX3 yX3_markWith yX3_markWith, Cond.initialized RX3, Cond.code yX3_markWith cX3_markWith 5 (some .int), Cond.fieldLink RX3 18 "LedgerKiln$Legs" "count" "I", Cond.fieldLink RX3 9 "LedgerKiln$Legs" "accounts" "[I", Cond.fieldLink RX3 15 "LedgerKiln$Legs" "amounts" "[I", Cond.methodLink RX3 22 yX3_nextMark, Cond.static yX3_nextMark, Cond.code yX3_nextMark cX3_nextMark 2 (some .int), Cond.constant RX3 26 (1000003)]
def wsL_proves : List Cond := .codeWith yL_proves cL_proves 5 (some .int) [(0, 17, 20, 13), (0, 17, 24, 15)] :: ((wsL_proves_r1 ++ wsL_proves_r2) ++ wsX60 ++ wsX00 ++ wsX30 ++ (vx_atS RX6 308 "java/lang/IndexOutOfBoundsException" ["java/lang/RuntimeException", "java/lang/Exception"]).filter goodWord ++ (vx_atS RX6 55 "java/lang/IllegalArgumentException" ["java/lang/RuntimeException", "java/lang/Exception"]).filter goodWord)
def wsL_proven_r1 : List Cond := [Cond.classLink RL 13 "java/lang/IndexOutOfBoundsException", Cond.methodLink RL 89 yX6_proven, Cond.instanceMethod yX6_proven, Cond.selects RX6 yX6_proven yX6_proven, Cond.initialized RX6, Cond.code yX6_proven cX6_proven 3 (some .int), Cond.fieldLink RX6 22 "LedgerKiln" "book" "LLedgerKiln$Book;", Cond.fieldLink RX6 258 "LedgerKiln$Book" "struck" "[Z", Cond.fieldLink RX6 261 "LedgerKiln$Book" "written" "LLedgerKiln$Sheet;", Cond.methodLink RX6 88 yX6_needPage, Cond.instanceMethod yX6_needPage, Cond.selects RX6 yX6_needPage yX6_needPage, Cond.code yX6_needPage cX6_needPage 2 none, Cond.classLink RX6 304 "java/lang/IndexOutOfBoundsException", Cond.initialized "java/lang/IndexOutOfBoundsException", Cond.fieldLink RX6 233 "LedgerKiln$Book" "count" "I", Cond.methodLink RX6 44 yX6_needAccount, Cond.static yX6_needAccount, Cond.code yX6_needAccount cX6_needAccount 1 none, Cond.methodLink RX6 264 yX0_sumOn, Cond.instanceMethod yX0_sumOn, Cond.selects RX0 yX0_sumOn yX0_sumOn, Cond.initialized RX0, Cond.code yX0_sumOn cX0_sumOn 6 (some .int)]
def wsL_proven_r2 : List Cond := [Cond.fieldLink RX0 21 "LedgerKiln$Book" "legCounts" "[I", Cond.fieldLink RX0 24 "LedgerKiln$Book" "accounts" "[I", Cond.methodLink RX0 71 yX4_amountOf, Cond.instanceMethod yX4_amountOf, Cond.selects RX4 yX4_amountOf yX4_amountOf, Cond.initialized RX4, Cond.code yX4_amountOf cX4_amountOf 3 (some .int), Cond.fieldLink RX4 15 "LedgerKiln$Sheet" "amounts" "[I"]
def wsL_proven : List Cond := .codeWith yL_proven cL_proven 5 (some .int) [(0, 10, 13, 13)] :: ((wsL_proven_r1 ++ wsL_proven_r2) ++ wsX60 ++ wsX00 ++ wsX40 ++ (vx_atS RX6 308 "java/lang/IndexOutOfBoundsException" ["java/lang/RuntimeException", "java/lang/Exception"]).filter goodWord)
def wsL_balance_r1 : List Cond := [Cond.classLink RL 13 "java/lang/IndexOutOfBoundsException", Cond.classLink RL 15 "java/lang/IllegalArgumentException", Cond.methodLink RL 92 yX6_balance, Cond.instanceMethod yX6_balance, Cond.selects RX6 yX6_balance yX6_balance, Cond.initialized RX6, Cond.code yX6_balance cX6_balance 6 (some .int), Cond.fieldLink RX6 22 "LedgerKiln" "book" "LLedgerKiln$Book;", Cond.fieldLink RX6 261 "LedgerKiln$Book" "written" "LLedgerKiln$Sheet;", Cond.methodLink RX6 44 yX6_needAccount, Cond.static yX6_needAccount, Cond.code yX6_needAccount cX6_needAccount 1 none, Cond.classLink RX6 304 "java/lang/IndexOutOfBoundsException", Cond.initialized "java/lang/IndexOutOfBoundsException", Cond.methodLink RX6 268 yX6_needPastDay, Cond.instanceMethod yX6_needPastDay, Cond.selects RX6 yX6_needPastDay yX6_needPastDay, Cond.code yX6_needPastDay cX6_needPastDay 2 none, Cond.classLink RX6 51 "java/lang/IllegalArgumentException", Cond.initialized "java/lang/IllegalArgumentException", Cond.fieldLink RX6 40 "LedgerKiln" "today" "I", Cond.methodLink RX6 271 yX0_countUpTo, Cond.instanceMethod yX0_countUpTo, Cond.selects RX0 yX0_countUpTo yX0_countUpTo]
def wsL_balance_r2 : List Cond := [Cond.initialized RX0, Cond.code yX0_countUpTo cX0_countUpTo 3 (some .int), Cond.fieldLink RX0 47 "LedgerKiln$Book" "count" "I", Cond.fieldLink RX0 9 "LedgerKiln$Book" "days" "[I", Cond.methodLink RX6 264 yX0_sumOn, Cond.instanceMethod yX0_sumOn, Cond.selects RX0 yX0_sumOn yX0_sumOn, Cond.code yX0_sumOn cX0_sumOn 6 (some .int), Cond.fieldLink RX0 21 "LedgerKiln$Book" "legCounts" "[I", Cond.fieldLink RX0 24 "LedgerKiln$Book" "accounts" "[I", Cond.methodLink RX0 71 yX4_amountOf, Cond.instanceMethod yX4_amountOf, Cond.selects RX4 yX4_amountOf yX4_amountOf, Cond.initialized RX4, Cond.code yX4_amountOf cX4_amountOf 3 (some .int), Cond.fieldLink RX4 15 "LedgerKiln$Sheet" "amounts" "[I"]
def wsL_balance : List Cond := .codeWith yL_balance cL_balance 5 (some .int) [(0, 10, 13, 13), (0, 10, 17, 15)] :: ((wsL_balance_r1 ++ wsL_balance_r2) ++ wsX60 ++ wsX00 ++ wsX40 ++ (vx_atS RX6 308 "java/lang/IndexOutOfBoundsException" ["java/lang/RuntimeException", "java/lang/Exception"]).filter goodWord ++ (vx_atS RX6 55 "java/lang/IllegalArgumentException" ["java/lang/RuntimeException", "java/lang/Exception"]).filter goodWord)
def wsL_balanceByPages_r1 : List Cond := [Cond.classLink RL 13 "java/lang/IndexOutOfBoundsException", Cond.classLink RL 15 "java/lang/IllegalArgumentException", Cond.classLink RL 17 "java/lang/IllegalStateException", Cond.methodLink RL 95 yX6_balanceByPages, Cond.instanceMethod yX6_balanceByPages, Cond.selects RX6 yX6_balanceByPages yX6_balanceByPages, Cond.initialized RX6, Cond.code yX6_balanceByPages cX6_balanceByPages 7 (some .int), Cond.classLink RX6 62 "java/lang/IllegalStateException", Cond.initialized "java/lang/IllegalStateException", Cond.fieldLink RX6 22 "LedgerKiln" "book" "LLedgerKiln$Book;", Cond.fieldLink RX6 261 "LedgerKiln$Book" "written" "LLedgerKiln$Sheet;", Cond.fieldLink RX6 107 "LedgerKiln$Book" "now" "LLedgerKiln$Sheet;", Cond.methodLink RX6 44 yX6_needAccount, Cond.static yX6_needAccount, Cond.code yX6_needAccount cX6_needAccount 1 none, Cond.classLink RX6 304 "java/lang/IndexOutOfBoundsException", Cond.initialized "java/lang/IndexOutOfBoundsException", Cond.methodLink RX6 268 yX6_needPastDay, Cond.instanceMethod yX6_needPastDay, Cond.selects RX6 yX6_needPastDay yX6_needPastDay, Cond.code yX6_needPastDay cX6_needPastDay 2 none, Cond.classLink RX6 51 "java/lang/IllegalArgumentException", Cond.initialized "java/lang/IllegalArgumentException"]
def wsL_balanceByPages_r2 : List Cond := [Cond.fieldLink RX6 40 "LedgerKiln" "today" "I", Cond.methodLink RX6 271 yX0_countUpTo, Cond.instanceMethod yX0_countUpTo, Cond.selects RX0 yX0_countUpTo yX0_countUpTo, Cond.initialized RX0, Cond.code yX0_countUpTo cX0_countUpTo 3 (some .int), Cond.fieldLink RX0 47 "LedgerKiln$Book" "count" "I", Cond.fieldLink RX0 9 "LedgerKiln$Book" "days" "[I", Cond.methodLink RX6 236 yX0_stateOf, Cond.instanceMethod yX0_stateOf, Cond.selects RX0 yX0_stateOf yX0_stateOf, Cond.code yX0_stateOf cX0_stateOf 2 (some .int), Cond.fieldLink RX0 34 "LedgerKiln$Book" "struck" "[Z", Cond.fieldLink RX0 44 "LedgerKiln$Book" "now" "LLedgerKiln$Sheet;", Cond.methodLink RX0 85 yX4_isFilled, Cond.instanceMethod yX4_isFilled, Cond.selects RX4 yX4_isFilled yX4_isFilled, Cond.initialized RX4, Cond.code yX4_isFilled cX4_isFilled 2 (some .boolean), Cond.fieldLink RX4 9 "LedgerKiln$Sheet" "filled" "[Z", Cond.methodLink RX6 264 yX0_sumOn, Cond.instanceMethod yX0_sumOn, Cond.selects RX0 yX0_sumOn yX0_sumOn, Cond.code yX0_sumOn cX0_sumOn 6 (some .int)]
def wsL_balanceByPages_r3 : List Cond := [Cond.fieldLink RX0 21 "LedgerKiln$Book" "legCounts" "[I", Cond.fieldLink RX0 24 "LedgerKiln$Book" "accounts" "[I", Cond.methodLink RX0 71 yX4_amountOf, Cond.instanceMethod yX4_amountOf, Cond.selects RX4 yX4_amountOf yX4_amountOf, Cond.code yX4_amountOf cX4_amountOf 3 (some .int), Cond.fieldLink RX4 15 "LedgerKiln$Sheet" "amounts" "[I"]
def wsL_balanceByPages : List Cond := .codeWith yL_balanceByPages cL_balanceByPages 5 (some .int) [(0, 10, 13, 13), (0, 10, 17, 15), (0, 10, 21, 17)] :: ((wsL_balanceByPages_r1 ++ (wsL_balanceByPages_r2 ++ wsL_balanceByPages_r3)) ++ wsX60 ++ wsX00 ++ wsX40 ++ (vx_atS RX6 66 "java/lang/IllegalStateException" ["java/lang/RuntimeException", "java/lang/Exception"]).filter goodWord ++ (vx_atS RX6 308 "java/lang/IndexOutOfBoundsException" ["java/lang/RuntimeException", "java/lang/Exception"]).filter goodWord ++ (vx_atS RX6 55 "java/lang/IllegalArgumentException" ["java/lang/RuntimeException", "java/lang/Exception"]).filter goodWord)
def wsL_balanceByCopies_r1 : List Cond := [Cond.classLink RL 13 "java/lang/IndexOutOfBoundsException", Cond.classLink RL 15 "java/lang/IllegalArgumentException", Cond.classLink RL 17 "java/lang/IllegalStateException", Cond.methodLink RL 98 yX6_balanceByCopies, Cond.instanceMethod yX6_balanceByCopies, Cond.selects RX6 yX6_balanceByCopies yX6_balanceByCopies, Cond.initialized RX6, Cond.code yX6_balanceByCopies cX6_balanceByCopies 6 (some .int), Cond.classLink RX6 62 "java/lang/IllegalStateException", Cond.initialized "java/lang/IllegalStateException", Cond.fieldLink RX6 22 "LedgerKiln" "book" "LLedgerKiln$Book;", Cond.fieldLink RX6 261 "LedgerKiln$Book" "written" "LLedgerKiln$Sheet;", Cond.methodLink RX6 44 yX6_needAccount, Cond.static yX6_needAccount, Cond.code yX6_needAccount cX6_needAccount 1 none, Cond.classLink RX6 304 "java/lang/IndexOutOfBoundsException", Cond.initialized "java/lang/IndexOutOfBoundsException", Cond.methodLink RX6 268 yX6_needPastDay, Cond.instanceMethod yX6_needPastDay, Cond.selects RX6 yX6_needPastDay yX6_needPastDay, Cond.code yX6_needPastDay cX6_needPastDay 2 none, Cond.classLink RX6 51 "java/lang/IllegalArgumentException", Cond.initialized "java/lang/IllegalArgumentException", Cond.fieldLink RX6 40 "LedgerKiln" "today" "I"]
def wsL_balanceByCopies_r2 : List Cond := [Cond.methodLink RX6 271 yX0_countUpTo, Cond.instanceMethod yX0_countUpTo, Cond.selects RX0 yX0_countUpTo yX0_countUpTo, Cond.initialized RX0, Cond.code yX0_countUpTo cX0_countUpTo 3 (some .int), Cond.fieldLink RX0 47 "LedgerKiln$Book" "count" "I", Cond.fieldLink RX0 9 "LedgerKiln$Book" "days" "[I", Cond.methodLink RX6 276 yX6_isToldTruly, Cond.instanceMethod yX6_isToldTruly, Cond.selects RX6 yX6_isToldTruly yX6_isToldTruly, Cond.code yX6_isToldTruly cX6_isToldTruly 2 (some .boolean), Cond.fieldLink RX6 29 "LedgerKiln" "vault" "LLedgerKiln$Vault;", Cond.fieldLink RX6 258 "LedgerKiln$Book" "struck" "[Z", Cond.fieldLink RX6 107 "LedgerKiln$Book" "now" "LLedgerKiln$Sheet;", Cond.methodLink RX6 281 yX5_hasTrue, Cond.instanceMethod yX5_hasTrue, Cond.selects RX5 yX5_hasTrue yX5_hasTrue, Cond.initialized RX5, Cond.code yX5_hasTrue cX5_hasTrue 6 (some .boolean), Cond.fieldLink RX5 17 "LedgerKiln$Vault" "made" "I", Cond.fieldLink RX5 11 "LedgerKiln$Vault" "copies" "[LLedgerKiln$Copy;", Cond.fieldLink RX5 56 "LedgerKiln$Copy" "inVault" "Z", Cond.fieldLink RX5 35 "LedgerKiln$Copy" "sheet" "LLedgerKiln$Sheet;", Cond.methodLink RX5 67 yX0_isTrueOn]
def wsL_balanceByCopies_r3 : List Cond := [Cond.instanceMethod yX0_isTrueOn, Cond.selects RX0 yX0_isTrueOn yX0_isTrueOn, Cond.code yX0_isTrueOn cX0_isTrueOn 3 (some .boolean), Cond.fieldLink RX0 40 "LedgerKiln$Book" "written" "LLedgerKiln$Sheet;", Cond.methodLink RX0 88 yX4_isLike, Cond.instanceMethod yX4_isLike, Cond.selects RX4 yX4_isLike yX4_isLike, Cond.initialized RX4, Cond.code yX4_isLike cX4_isLike 4 (some .boolean), Cond.fieldLink RX4 9 "LedgerKiln$Sheet" "filled" "[Z", Cond.methodLink RX4 26 yX4_amountOf, Cond.instanceMethod yX4_amountOf, Cond.selects RX4 yX4_amountOf yX4_amountOf, Cond.code yX4_amountOf cX4_amountOf 3 (some .int), Cond.fieldLink RX4 15 "LedgerKiln$Sheet" "amounts" "[I", Cond.methodLink RX6 239 yX0_isTrueOn, Cond.methodLink RX6 264 yX0_sumOn, Cond.instanceMethod yX0_sumOn, Cond.selects RX0 yX0_sumOn yX0_sumOn, Cond.code yX0_sumOn cX0_sumOn 6 (some .int), Cond.fieldLink RX0 21 "LedgerKiln$Book" "legCounts" "[I", Cond.fieldLink RX0 24 "LedgerKiln$Book" "accounts" "[I", Cond.methodLink RX0 71 yX4_amountOf]
def wsL_balanceByCopies : List Cond := .codeWith yL_balanceByCopies cL_balanceByCopies 5 (some .int) [(0, 10, 13, 13), (0, 10, 17, 15), (0, 10, 21, 17)] :: ((wsL_balanceByCopies_r1 ++ (wsL_balanceByCopies_r2 ++ wsL_balanceByCopies_r3)) ++ wsX60 ++ wsX00 ++ wsX50 ++ wsX10 ++ wsX40 ++ (vx_atS RX6 66 "java/lang/IllegalStateException" ["java/lang/RuntimeException", "java/lang/Exception"]).filter goodWord ++ (vx_atS RX6 308 "java/lang/IndexOutOfBoundsException" ["java/lang/RuntimeException", "java/lang/Exception"]).filter goodWord ++ (vx_atS RX6 55 "java/lang/IllegalArgumentException" ["java/lang/RuntimeException", "java/lang/Exception"]).filter goodWord)
def wsL_size : List Cond := .codeWith yL_size cL_size 4 (some .int) [(0, 9, 12, 13)] :: ([.classLink RL 13 "java/lang/IndexOutOfBoundsException", .methodLink RL 101 yX6_size, .instanceMethod yX6_size, .selects RX6 yX6_size yX6_size, .initialized RX6, .code yX6_size cX6_size 3 (some .int), .fieldLink RX6 285 "LedgerKiln$Copy" "end" "I", .fieldLink RX6 288 "LedgerKiln$Copy" "first" "I", .methodLink RX6 138 yX6_needCopy, .instanceMethod yX6_needCopy, .selects RX6 yX6_needCopy yX6_needCopy, .code yX6_needCopy cX6_needCopy 3 (some (.object "LedgerKiln$Copy")), .classLink RX6 304 "java/lang/IndexOutOfBoundsException", .initialized "java/lang/IndexOutOfBoundsException", .fieldLink RX6 29 "LedgerKiln" "vault" "LLedgerKiln$Vault;", .methodLink RX6 316 yX5_find, .instanceMethod yX5_find, .selects RX5 yX5_find yX5_find, .initialized RX5, .code yX5_find cX5_find 2 (some (.object "LedgerKiln$Copy")), .fieldLink RX5 17 "LedgerKiln$Vault" "made" "I", .fieldLink RX5 11 "LedgerKiln$Vault" "copies" "[LLedgerKiln$Copy;"] ++ wsX10 ++ wsX60 ++ wsX50 ++ (vx_atS RX6 308 "java/lang/IndexOutOfBoundsException" ["java/lang/RuntimeException", "java/lang/Exception"]).filter goodWord)
def wsL_isInVault : List Cond := .codeWith yL_isInVault cL_isInVault 4 (some .int) [(0, 16, 19, 13)] :: ([.classLink RL 13 "java/lang/IndexOutOfBoundsException", .methodLink RL 104 yX6_isInVault, .instanceMethod yX6_isInVault, .selects RX6 yX6_isInVault yX6_isInVault, .initialized RX6, .code yX6_isInVault cX6_isInVault 3 (some .boolean), .fieldLink RX6 142 "LedgerKiln$Copy" "inVault" "Z", .methodLink RX6 138 yX6_needCopy, .instanceMethod yX6_needCopy, .selects RX6 yX6_needCopy yX6_needCopy, .code yX6_needCopy cX6_needCopy 3 (some (.object "LedgerKiln$Copy")), .classLink RX6 304 "java/lang/IndexOutOfBoundsException", .initialized "java/lang/IndexOutOfBoundsException", .fieldLink RX6 29 "LedgerKiln" "vault" "LLedgerKiln$Vault;", .methodLink RX6 316 yX5_find, .instanceMethod yX5_find, .selects RX5 yX5_find yX5_find, .initialized RX5, .code yX5_find cX5_find 2 (some (.object "LedgerKiln$Copy")), .fieldLink RX5 17 "LedgerKiln$Vault" "made" "I", .fieldLink RX5 11 "LedgerKiln$Vault" "copies" "[LLedgerKiln$Copy;"] ++ wsX10 ++ wsX60 ++ wsX50 ++ (vx_atS RX6 308 "java/lang/IndexOutOfBoundsException" ["java/lang/RuntimeException", "java/lang/Exception"]).filter goodWord)
def wsL_stands_r1 : List Cond := [Cond.classLink RL 13 "java/lang/IndexOutOfBoundsException", Cond.methodLink RL 107 yX6_stands, Cond.instanceMethod yX6_stands, Cond.selects RX6 yX6_stands yX6_stands, Cond.initialized RX6, Cond.code yX6_stands cX6_stands 4 (some .boolean), Cond.fieldLink RX6 156 "LedgerKiln$Copy" "sheet" "LLedgerKiln$Sheet;", Cond.methodLink RX6 138 yX6_needCopy, Cond.instanceMethod yX6_needCopy, Cond.selects RX6 yX6_needCopy yX6_needCopy, Cond.code yX6_needCopy cX6_needCopy 3 (some (.object "LedgerKiln$Copy")), Cond.classLink RX6 304 "java/lang/IndexOutOfBoundsException", Cond.initialized "java/lang/IndexOutOfBoundsException", Cond.fieldLink RX6 29 "LedgerKiln" "vault" "LLedgerKiln$Vault;", Cond.methodLink RX6 316 yX5_find, Cond.instanceMethod yX5_find, Cond.selects RX5 yX5_find yX5_find, Cond.initialized RX5, Cond.code yX5_find cX5_find 2 (some (.object "LedgerKiln$Copy")), Cond.fieldLink RX5 17 "LedgerKiln$Vault" "made" "I", Cond.fieldLink RX5 11 "LedgerKiln$Vault" "copies" "[LLedgerKiln$Copy;", Cond.methodLink RX6 152 yX6_needPageIn, Cond.static yX6_needPageIn, Cond.code yX6_needPageIn cX6_needPageIn 2 none]
def wsL_stands_r2 : List Cond := [Cond.fieldLink RX6 288 "LedgerKiln$Copy" "first" "I", Cond.fieldLink RX6 285 "LedgerKiln$Copy" "end" "I", Cond.methodLink RX6 118 yX4_isFilled, Cond.instanceMethod yX4_isFilled, Cond.selects RX4 yX4_isFilled yX4_isFilled, Cond.initialized RX4, Cond.code yX4_isFilled cX4_isFilled 2 (some .boolean), Cond.fieldLink RX4 9 "LedgerKiln$Sheet" "filled" "[Z"]
def wsL_stands : List Cond := .codeWith yL_stands cL_stands 5 (some .int) [(0, 17, 20, 13)] :: ((wsL_stands_r1 ++ wsL_stands_r2) ++ wsX10 ++ wsX60 ++ wsX50 ++ wsX40 ++ (vx_atS RX6 308 "java/lang/IndexOutOfBoundsException" ["java/lang/RuntimeException", "java/lang/Exception"]).filter goodWord)
def wsL_copiesOf_r1 : List Cond := [Cond.classLink RL 13 "java/lang/IndexOutOfBoundsException", Cond.methodLink RL 110 yX6_copiesOf, Cond.instanceMethod yX6_copiesOf, Cond.selects RX6 yX6_copiesOf yX6_copiesOf, Cond.initialized RX6, Cond.code yX6_copiesOf cX6_copiesOf 2 (some .int), Cond.fieldLink RX6 29 "LedgerKiln" "vault" "LLedgerKiln$Vault;", Cond.methodLink RX6 88 yX6_needPage, Cond.instanceMethod yX6_needPage, Cond.selects RX6 yX6_needPage yX6_needPage, Cond.code yX6_needPage cX6_needPage 2 none, Cond.classLink RX6 304 "java/lang/IndexOutOfBoundsException", Cond.initialized "java/lang/IndexOutOfBoundsException", Cond.fieldLink RX6 22 "LedgerKiln" "book" "LLedgerKiln$Book;", Cond.fieldLink RX6 233 "LedgerKiln$Book" "count" "I", Cond.methodLink RX6 291 yX5_countFilled, Cond.instanceMethod yX5_countFilled, Cond.selects RX5 yX5_countFilled yX5_countFilled, Cond.initialized RX5, Cond.code yX5_countFilled cX5_countFilled 5 (some .int), Cond.fieldLink RX5 17 "LedgerKiln$Vault" "made" "I", Cond.fieldLink RX5 11 "LedgerKiln$Vault" "copies" "[LLedgerKiln$Copy;", Cond.fieldLink RX5 35 "LedgerKiln$Copy" "sheet" "LLedgerKiln$Sheet;", Cond.methodLink RX5 52 yX4_isFilled]
def wsL_copiesOf_r2 : List Cond := [Cond.instanceMethod yX4_isFilled, Cond.selects RX4 yX4_isFilled yX4_isFilled, Cond.initialized RX4, Cond.code yX4_isFilled cX4_isFilled 2 (some .boolean), Cond.fieldLink RX4 9 "LedgerKiln$Sheet" "filled" "[Z"]
def wsL_copiesOf : List Cond := .codeWith yL_copiesOf cL_copiesOf 4 (some .int) [(0, 9, 12, 13)] :: ((wsL_copiesOf_r1 ++ wsL_copiesOf_r2) ++ wsX60 ++ wsX00 ++ wsX50 ++ wsX10 ++ wsX40 ++ (vx_atS RX6 308 "java/lang/IndexOutOfBoundsException" ["java/lang/RuntimeException", "java/lang/Exception"]).filter goodWord)
def wsL_canRestore_r1 : List Cond := [Cond.classLink RL 13 "java/lang/IndexOutOfBoundsException", Cond.methodLink RL 113 yX6_canRestore, Cond.instanceMethod yX6_canRestore, Cond.selects RX6 yX6_canRestore yX6_canRestore, Cond.initialized RX6, Cond.code yX6_canRestore cX6_canRestore 3 (some .boolean), Cond.methodLink RX6 138 yX6_needCopy, Cond.instanceMethod yX6_needCopy, Cond.selects RX6 yX6_needCopy yX6_needCopy, Cond.code yX6_needCopy cX6_needCopy 3 (some (.object "LedgerKiln$Copy")), Cond.classLink RX6 304 "java/lang/IndexOutOfBoundsException", Cond.initialized "java/lang/IndexOutOfBoundsException", Cond.fieldLink RX6 29 "LedgerKiln" "vault" "LLedgerKiln$Vault;", Cond.methodLink RX6 316 yX5_find, Cond.instanceMethod yX5_find, Cond.selects RX5 yX5_find yX5_find, Cond.initialized RX5, Cond.code yX5_find cX5_find 2 (some (.object "LedgerKiln$Copy")), Cond.fieldLink RX5 17 "LedgerKiln$Vault" "made" "I", Cond.fieldLink RX5 11 "LedgerKiln$Vault" "copies" "[LLedgerKiln$Copy;", Cond.methodLink RX6 175 yX1_isChainInVault, Cond.instanceMethod yX1_isChainInVault, Cond.selects RX1 yX1_isChainInVault yX1_isChainInVault, Cond.initialized RX1]
def wsL_canRestore_r2 : List Cond := [Cond.code yX1_isChainInVault cX1_isChainInVault 2 (some .boolean), Cond.fieldLink RX1 16 "LedgerKiln$Copy" "inVault" "Z", Cond.fieldLink RX1 20 "LedgerKiln$Copy" "base" "LLedgerKiln$Copy;"]
def wsL_canRestore : List Cond := .codeWith yL_canRestore cL_canRestore 4 (some .int) [(0, 16, 19, 13)] :: ((wsL_canRestore_r1 ++ wsL_canRestore_r2) ++ wsX60 ++ wsX50 ++ wsX10 ++ (vx_atS RX6 308 "java/lang/IndexOutOfBoundsException" ["java/lang/RuntimeException", "java/lang/Exception"]).filter goodWord)
def wsL_audit_r1 : List Cond := [Cond.classLink RL 13 "java/lang/IndexOutOfBoundsException", Cond.methodLink RL 116 yX6_audit, Cond.instanceMethod yX6_audit, Cond.selects RX6 yX6_audit yX6_audit, Cond.initialized RX6, Cond.code yX6_audit cX6_audit 5 (some .int), Cond.fieldLink RX6 288 "LedgerKiln$Copy" "first" "I", Cond.fieldLink RX6 285 "LedgerKiln$Copy" "end" "I", Cond.fieldLink RX6 156 "LedgerKiln$Copy" "sheet" "LLedgerKiln$Sheet;", Cond.fieldLink RX6 22 "LedgerKiln" "book" "LLedgerKiln$Book;", Cond.fieldLink RX6 107 "LedgerKiln$Book" "now" "LLedgerKiln$Sheet;", Cond.methodLink RX6 138 yX6_needCopy, Cond.instanceMethod yX6_needCopy, Cond.selects RX6 yX6_needCopy yX6_needCopy, Cond.code yX6_needCopy cX6_needCopy 3 (some (.object "LedgerKiln$Copy")), Cond.classLink RX6 304 "java/lang/IndexOutOfBoundsException", Cond.initialized "java/lang/IndexOutOfBoundsException", Cond.fieldLink RX6 29 "LedgerKiln" "vault" "LLedgerKiln$Vault;", Cond.methodLink RX6 316 yX5_find, Cond.instanceMethod yX5_find, Cond.selects RX5 yX5_find yX5_find, Cond.initialized RX5, Cond.code yX5_find cX5_find 2 (some (.object "LedgerKiln$Copy")), Cond.fieldLink RX5 17 "LedgerKiln$Vault" "made" "I"]
def wsL_audit_r2 : List Cond := [Cond.fieldLink RX5 11 "LedgerKiln$Vault" "copies" "[LLedgerKiln$Copy;", Cond.methodLink RX6 297 yX4_isLike, Cond.instanceMethod yX4_isLike, Cond.selects RX4 yX4_isLike yX4_isLike, Cond.initialized RX4, Cond.code yX4_isLike cX4_isLike 4 (some .boolean), Cond.fieldLink RX4 9 "LedgerKiln$Sheet" "filled" "[Z", Cond.methodLink RX4 26 yX4_amountOf, Cond.instanceMethod yX4_amountOf, Cond.selects RX4 yX4_amountOf yX4_amountOf, Cond.code yX4_amountOf cX4_amountOf 3 (some .int), Cond.fieldLink RX4 15 "LedgerKiln$Sheet" "amounts" "[I"]
def wsL_audit : List Cond := .codeWith yL_audit cL_audit 4 (some .int) [(0, 9, 12, 13)] :: ((wsL_audit_r1 ++ wsL_audit_r2) ++ wsX10 ++ wsX60 ++ wsX00 ++ wsX50 ++ wsX40 ++ (vx_atS RX6 308 "java/lang/IndexOutOfBoundsException" ["java/lang/RuntimeException", "java/lang/Exception"]).filter goodWord)
def wsL_isOpen : List Cond := .codeWith yL_isOpen cL_isOpen 4 (some .int) [(0, 16, 19, 13)] :: ([.classLink RL 13 "java/lang/IndexOutOfBoundsException", .methodLink RL 119 yX6_isOpen, .instanceMethod yX6_isOpen, .selects RX6 yX6_isOpen yX6_isOpen, .initialized RX6, .code yX6_isOpen cX6_isOpen 2 (some .boolean), .fieldLink RX6 36 "LedgerKiln" "court" "LLedgerKiln$Court;", .fieldLink RX6 196 "LedgerKiln$Court" "running" "[Z", .methodLink RX6 193 yX6_needCase, .instanceMethod yX6_needCase, .selects RX6 yX6_needCase yX6_needCase, .code yX6_needCase cX6_needCase 2 none, .classLink RX6 304 "java/lang/IndexOutOfBoundsException", .initialized "java/lang/IndexOutOfBoundsException", .fieldLink RX6 311 "LedgerKiln$Court" "opened" "I"] ++ wsX60 ++ wsX20 ++ (vx_atS RX6 308 "java/lang/IndexOutOfBoundsException" ["java/lang/RuntimeException", "java/lang/Exception"]).filter goodWord)
def wsL_holders_r1 : List Cond := [Cond.classLink RL 13 "java/lang/IndexOutOfBoundsException", Cond.methodLink RL 122 yX6_holders, Cond.instanceMethod yX6_holders, Cond.selects RX6 yX6_holders yX6_holders, Cond.initialized RX6, Cond.code yX6_holders cX6_holders 2 (some .int), Cond.fieldLink RX6 36 "LedgerKiln" "court" "LLedgerKiln$Court;", Cond.fieldLink RX6 22 "LedgerKiln" "book" "LLedgerKiln$Book;", Cond.methodLink RX6 88 yX6_needPage, Cond.instanceMethod yX6_needPage, Cond.selects RX6 yX6_needPage yX6_needPage, Cond.code yX6_needPage cX6_needPage 2 none, Cond.classLink RX6 304 "java/lang/IndexOutOfBoundsException", Cond.initialized "java/lang/IndexOutOfBoundsException", Cond.fieldLink RX6 233 "LedgerKiln$Book" "count" "I", Cond.methodLink RX6 300 yX2_holdersOf, Cond.instanceMethod yX2_holdersOf, Cond.selects RX2 yX2_holdersOf yX2_holdersOf, Cond.initialized RX2, Cond.code yX2_holdersOf cX2_holdersOf 7 (some .int), Cond.fieldLink RX2 35 "LedgerKiln$Book" "days" "[I", Cond.fieldLink RX2 32 "LedgerKiln$Court" "holds" "I", Cond.fieldLink RX2 26 "LedgerKiln$Court" "holdFroms" "[I", Cond.fieldLink RX2 29 "LedgerKiln$Court" "holdTos" "[I"]
def wsL_holders_r2 : List Cond := [Cond.fieldLink RX2 9 "LedgerKiln$Court" "running" "[Z", Cond.fieldLink RX2 19 "LedgerKiln$Court" "holdCases" "[I", Cond.fieldLink RX2 23 "LedgerKiln$Court" "holdAccounts" "[I", Cond.methodLink RX2 40 yX0_hasLegFor, Cond.instanceMethod yX0_hasLegFor, Cond.selects RX0 yX0_hasLegFor yX0_hasLegFor, Cond.initialized RX0, Cond.code yX0_hasLegFor cX0_hasLegFor 4 (some .boolean), Cond.fieldLink RX0 21 "LedgerKiln$Book" "legCounts" "[I", Cond.fieldLink RX0 24 "LedgerKiln$Book" "accounts" "[I"]
def wsL_holders : List Cond := .codeWith yL_holders cL_holders 4 (some .int) [(0, 9, 12, 13)] :: ((wsL_holders_r1 ++ wsL_holders_r2) ++ wsX60 ++ wsX00 ++ wsX20 ++ (vx_atS RX6 308 "java/lang/IndexOutOfBoundsException" ["java/lang/RuntimeException", "java/lang/Exception"]).filter goodWord)
def wsL_canStrike_r1 : List Cond := [Cond.classLink RL 13 "java/lang/IndexOutOfBoundsException", Cond.methodLink RL 125 yX6_canStrike, Cond.instanceMethod yX6_canStrike, Cond.selects RX6 yX6_canStrike yX6_canStrike, Cond.initialized RX6, Cond.code yX6_canStrike cX6_canStrike 3 (some .boolean), Cond.fieldLink RX6 36 "LedgerKiln" "court" "LLedgerKiln$Court;", Cond.fieldLink RX6 22 "LedgerKiln" "book" "LLedgerKiln$Book;", Cond.methodLink RX6 193 yX6_needCase, Cond.instanceMethod yX6_needCase, Cond.selects RX6 yX6_needCase yX6_needCase, Cond.code yX6_needCase cX6_needCase 2 none, Cond.classLink RX6 304 "java/lang/IndexOutOfBoundsException", Cond.initialized "java/lang/IndexOutOfBoundsException", Cond.fieldLink RX6 311 "LedgerKiln$Court" "opened" "I", Cond.methodLink RX6 88 yX6_needPage, Cond.instanceMethod yX6_needPage, Cond.selects RX6 yX6_needPage yX6_needPage, Cond.code yX6_needPage cX6_needPage 2 none, Cond.fieldLink RX6 233 "LedgerKiln$Book" "count" "I", Cond.methodLink RX6 220 yX2_maySentence, Cond.instanceMethod yX2_maySentence, Cond.selects RX2 yX2_maySentence yX2_maySentence, Cond.initialized RX2]
def wsL_canStrike_r2 : List Cond := [Cond.code yX2_maySentence cX2_maySentence 5 (some .boolean), Cond.fieldLink RX2 9 "LedgerKiln$Court" "running" "[Z", Cond.fieldLink RX2 69 "LedgerKiln$Book" "now" "LLedgerKiln$Sheet;", Cond.methodLink RX2 47 yX2_holdersOf, Cond.instanceMethod yX2_holdersOf, Cond.selects RX2 yX2_holdersOf yX2_holdersOf, Cond.code yX2_holdersOf cX2_holdersOf 7 (some .int), Cond.fieldLink RX2 35 "LedgerKiln$Book" "days" "[I", Cond.fieldLink RX2 32 "LedgerKiln$Court" "holds" "I", Cond.fieldLink RX2 26 "LedgerKiln$Court" "holdFroms" "[I", Cond.fieldLink RX2 29 "LedgerKiln$Court" "holdTos" "[I", Cond.fieldLink RX2 19 "LedgerKiln$Court" "holdCases" "[I", Cond.fieldLink RX2 23 "LedgerKiln$Court" "holdAccounts" "[I", Cond.methodLink RX2 40 yX0_hasLegFor, Cond.instanceMethod yX0_hasLegFor, Cond.selects RX0 yX0_hasLegFor yX0_hasLegFor, Cond.initialized RX0, Cond.code yX0_hasLegFor cX0_hasLegFor 4 (some .boolean), Cond.fieldLink RX0 21 "LedgerKiln$Book" "legCounts" "[I", Cond.fieldLink RX0 24 "LedgerKiln$Book" "accounts" "[I", Cond.methodLink RX2 72 yX0_isTrueOn, Cond.instanceMethod yX0_isTrueOn, Cond.selects RX0 yX0_isTrueOn yX0_isTrueOn, Cond.code yX0_isTrueOn cX0_isTrueOn 3 (some .boolean)]
def wsL_canStrike_r3 : List Cond := [Cond.fieldLink RX0 40 "LedgerKiln$Book" "written" "LLedgerKiln$Sheet;", Cond.methodLink RX0 88 yX4_isLike, Cond.instanceMethod yX4_isLike, Cond.selects RX4 yX4_isLike yX4_isLike, Cond.initialized RX4, Cond.code yX4_isLike cX4_isLike 4 (some .boolean), Cond.fieldLink RX4 9 "LedgerKiln$Sheet" "filled" "[Z", Cond.methodLink RX4 26 yX4_amountOf, Cond.instanceMethod yX4_amountOf, Cond.selects RX4 yX4_amountOf yX4_amountOf, Cond.code yX4_amountOf cX4_amountOf 3 (some .int), Cond.fieldLink RX4 15 "LedgerKiln$Sheet" "amounts" "[I"]
def wsL_canStrike : List Cond := .codeWith yL_canStrike cL_canStrike 5 (some .int) [(0, 17, 20, 13)] :: ((wsL_canStrike_r1 ++ (wsL_canStrike_r2 ++ wsL_canStrike_r3)) ++ wsX60 ++ wsX20 ++ wsX00 ++ wsX40 ++ (vx_atS RX6 308 "java/lang/IndexOutOfBoundsException" ["java/lang/RuntimeException", "java/lang/Exception"]).filter goodWord)
set_option maxRecDepth 20000 in
theorem ggX0_init_X4_init : GoodIn wsX0_init wsX4_init := goodIn_r _ [21, 22, 2, 3, 11, 23, 4, 24, 36, 37] (by decide +kernel) (by decide +kernel)
set_option maxRecDepth 20000 in
theorem gX0_init_X4_init_n39 : GoodIn wsX0_init (wsX4_init) := ggX0_init_X4_init
end
section
/-! a judgement that hides heap, written places and the locals' array: zJ; the kit's rows said over it -/
abbrev zX : Type := Program × Launch × Env × Room × State × MethodId × Array Value × List Frame × Method × Code
abbrev zp (X : zX) : Program := X.1
abbrev zl (X : zX) : Launch := X.2.1
abbrev ze (X : zX) : Env := X.2.2.1
abbrev zR (X : zX) : Room := X.2.2.2.1
abbrev zs (X : zX) : State := X.2.2.2.2.1
abbrev zm (X : zX) : MethodId := X.2.2.2.2.2.1
abbrev za (X : zX) : Array Value := X.2.2.2.2.2.2.1
abbrev zb (X : zX) : List Frame := X.2.2.2.2.2.2.2.1
abbrev zmeth (X : zX) : Method := X.2.2.2.2.2.2.2.2.1
abbrev zc (X : zX) : Code := X.2.2.2.2.2.2.2.2.2
abbrev vwCl : List vw_C := [(RX0, TX0, 11), (RX1, TX1, 5), (RX2, TX2, 7), (RX3, TX3, 3), (RX4, TX4, 2), (RX5, TX5, 2), (RX6, TX6, 6), (RX7, TX7, 30)]
def zW (X : zX) (H : Heap) (locs : List Loc) (k n : Nat) (Q : State → Prop) (g : JFrame) : Prop :=
  W (zp X) (zl X) (ze X) (zR X) (zs X) (zm X) (za X) (zb X) (zmeth X) (zc X) H locs k n Q g
abbrev zII : Type := va_W → Heap → List Loc → Prop
def zJ (X : zX) (nL : Nat) (I : zII) (Q : State → Prop) (w : va_W) (k n : Nat) (lv : List (Nat × Value)) (pc : Nat) (st : List Value) : Prop :=
  ∀ (H : Heap) (locs : List Loc) (ls : Array Slot), I w H locs → lv_has ls nL lv → zW X H locs k n Q (F0 (zm X) pc ls st)
/-- what stays through a method -/
def zB (X : zX) (own : String) (cc : ByteArray) (nL : Nat) (Ts : List Cond) (rm : Room) (D : va_G) (tys : List (ClassId × FieldType)) (I : zII) : Prop :=
  (zp X).tables.exec = Jvm.exec ∧ (zc X).code = cc ∧ (zc X).maxLocals = nL ∧ (zs X).vm.findClass own = some (zm X).cls ∧ (∀ w ∈ Ts, w.before (za X) (zs X) = true) ∧ va_K D vwCl tys (zs X) ∧ (∀ w H locs, I w H locs → va_P D vwCl w H) ∧ zR X = rm ∧ (zmeth X).locks = false
def zI0 (D : va_G) (s : State) : zII := fun w H locs => va_P D vwCl w H ∧ H = s.heap ∧ locs = []
def zI1 (D : va_G) (A : Nat → Prop) (s : State) : zII := fun w H locs => va_P D vwCl w H ∧ va_D A w ∧ va_S A s.heap H locs ∧ ∀ q, s.heap.size ≤ q → A q
section ZR
variable {X : zX} {own : String} {cc : ByteArray} {nL : Nat} {Ts : List Cond} {rm : Room} {D : va_G} {tys : List (ClassId × FieldType)} {I : zII} {Q : State → Prop} {w : va_W} {k n : Nat} {lv lv' : List (Nat × Value)} {pc : Nat} {st : List Value}
theorem zts (B : zB X own cc nL Ts rm D tys I) {w : Cond} (i : Nat) (h : Ts[i]? = some w) : w.before (za X) (zs X) = true := B.2.2.2.2.1 w (List.mem_of_getElem? h)
theorem z_loc (ks : List Nat) (h : lv_pick lv ks = lv') (kk : zJ X nL I Q w k n lv' pc st) : zJ X nL I Q w k n lv pc st := fun H locs ls hI hL => kk H locs ls hI (lv_sub hL ks h)
theorem z_top {x y : Int32} (h : x = y) (kk : zJ X nL I Q w k n lv pc (.int y :: st)) : zJ X nL I Q w k n lv pc (.int x :: st) := h ▸ kk
theorem z_top2 {x y : Int32} {v : Value} (h : x = y) (kk : zJ X nL I Q w k n lv pc (v :: .int y :: st)) : zJ X nL I Q w k n lv pc (v :: .int x :: st) := h ▸ kk
theorem z_nm {x : Int32} (kk : ∀ y : Int32, y = x → zJ X nL I Q w k n lv pc (.int y :: st)) : zJ X nL I Q w k n lv pc (.int x :: st) := kk x rfl
theorem z_w {w' : va_W} (h : w = w') (kk : zJ X nL I Q w' k n lv pc st) : zJ X nL I Q w k n lv pc st := h ▸ kk
theorem z_wid {k' n' : Nat} (h1 : k ≤ k') (h2 : n ≤ n') (kk : zJ X nL I Q w k' n' lv pc st) : zJ X nL I Q w k n lv pc st := fun H locs ls hI hL => W.widen h1 h2 (kk H locs ls hI hL)
theorem nI_cat (x : Int32) : (Value.int x).category = 1 := rfl
theorem z_iconst (B : zB X own cc nL Ts rm D tys I) {c : Int} {v : Int32} (hdg : decode cc pc = .ok (.iconst c, 1)) (hv : Int32.ofInt c = v) (kk : zJ X nL I Q w k n lv (pc + 1) (.int v :: st)) : zJ X nL I Q w k n lv pc st := by
  intro H locs ls hI hL
  exact lv_iconst B.1 B.2.1 hdg hv (kk H locs ls hI hL)
theorem z_bipush (B : zB X own cc nL Ts rm D tys I) {c : Int} {v : Int32} (hdg : decode cc pc = .ok (.bipush c, 2)) (hv : (Int8.ofInt c).toInt32 = v) (kk : zJ X nL I Q w k n lv (pc + 2) (.int v :: st)) : zJ X nL I Q w k n lv pc st := by
  intro H locs ls hI hL
  exact lv_bipush B.1 B.2.1 hdg hv (kk H locs ls hI hL)
theorem z_sipush (B : zB X own cc nL Ts rm D tys I) {c : Int} {v : Int32} (hdg : decode cc pc = .ok (.sipush c, 3)) (hv : (Int16.ofInt c).toInt32 = v) (kk : zJ X nL I Q w k n lv (pc + 3) (.int v :: st)) : zJ X nL I Q w k n lv pc st := by
  intro H locs ls hI hL
  exact lv_sipush B.1 B.2.1 hdg hv (kk H locs ls hI hL)
theorem z_ldc (B : zB X own cc nL Ts rm D tys I) {index : Nat} {v : Int32} (i : Nat) (hc : Ts[i]? = some (Jvm.Cond.constant own index v)) (hdg : decode cc pc = .ok (.ldc index, 2)) (kk : zJ X nL I Q w k n lv (pc + 2) (.int v :: st)) : zJ X nL I Q w k n lv pc st := by
  intro H locs ls hI hL
  exact lv_ldc B.1 B.2.1 B.2.2.2.1 (zts B i hc) hdg (kk H locs ls hI hL)
theorem z_lconst (B : zB X own cc nL Ts rm D tys I) {c : Fin 2} {v : Int64} (hdg : decode cc pc = .ok (.lconst c, 1)) (hv : Int64.ofNat (c : Nat) = v) (kk : zJ X nL I Q w k n lv (pc + 1) (.long v :: st)) : zJ X nL I Q w k n lv pc st := by
  intro H locs ls hI hL
  exact lv_lconst B.1 B.2.1 hdg hv (kk H locs ls hI hL)
theorem z_null (B : zB X own cc nL Ts rm D tys I)  (hdg : decode cc pc = .ok (.aconst_null, 1)) (kk : zJ X nL I Q w k n lv (pc + 1) (.null :: st)) : zJ X nL I Q w k n lv pc st := by
  intro H locs ls hI hL
  exact lv_null B.1 B.2.1 hdg (kk H locs ls hI hL)
theorem z_iload_n (B : zB X own cc nL Ts rm D tys I) {x : Int32} {c : Fin 4} {i : Nat} (j : Nat) (hdg : decode cc pc = .ok (.iload_n c, 1)) (hi : (c : Nat) = i) (hl : lv[j]? = some (i, .int x)) (kk : zJ X nL I Q w k n lv (pc + 1) (.int x :: st)) : zJ X nL I Q w k n lv pc st := by
  intro H locs ls hI hL
  exact lv_iload_n B.1 B.2.1 hdg hi (lv_at hL j hl) (kk H locs ls hI hL)
theorem z_iload (B : zB X own cc nL Ts rm D tys I) {x : Int32} {i : Nat} (j : Nat) (hdg : decode cc pc = .ok (.iload i, 2)) (hl : lv[j]? = some (i, .int x)) (kk : zJ X nL I Q w k n lv (pc + 2) (.int x :: st)) : zJ X nL I Q w k n lv pc st := by
  intro H locs ls hI hL
  exact lv_iload B.1 B.2.1 hdg (lv_at hL j hl) (kk H locs ls hI hL)
theorem z_aload_n (B : zB X own cc nL Ts rm D tys I) {x : Nat} {c : Fin 4} {i : Nat} (j : Nat) (hdg : decode cc pc = .ok (.aload_n c, 1)) (hi : (c : Nat) = i) (hl : lv[j]? = some (i, .ref x)) (kk : zJ X nL I Q w k n lv (pc + 1) (.ref x :: st)) : zJ X nL I Q w k n lv pc st := by
  intro H locs ls hI hL
  exact lv_aload_n B.1 B.2.1 hdg hi (lv_at hL j hl) (kk H locs ls hI hL)
theorem z_aload (B : zB X own cc nL Ts rm D tys I) {x : Nat} {i : Nat} (j : Nat) (hdg : decode cc pc = .ok (.aload i, 2)) (hl : lv[j]? = some (i, .ref x)) (kk : zJ X nL I Q w k n lv (pc + 2) (.ref x :: st)) : zJ X nL I Q w k n lv pc st := by
  intro H locs ls hI hL
  exact lv_aload B.1 B.2.1 hdg (lv_at hL j hl) (kk H locs ls hI hL)
theorem z_lload_n (B : zB X own cc nL Ts rm D tys I) {x : Int64} {c : Fin 4} {i : Nat} (j : Nat) (hdg : decode cc pc = .ok (.lload_n c, 1)) (hi : (c : Nat) = i) (hl : lv[j]? = some (i, .long x)) (kk : zJ X nL I Q w k n lv (pc + 1) (.long x :: st)) : zJ X nL I Q w k n lv pc st := by
  intro H locs ls hI hL
  exact lv_lload_n B.1 B.2.1 hdg hi (lv_at hL j hl) (kk H locs ls hI hL)
theorem z_lload (B : zB X own cc nL Ts rm D tys I) {x : Int64} {i : Nat} (j : Nat) (hdg : decode cc pc = .ok (.lload i, 2)) (hl : lv[j]? = some (i, .long x)) (kk : zJ X nL I Q w k n lv (pc + 2) (.long x :: st)) : zJ X nL I Q w k n lv pc st := by
  intro H locs ls hI hL
  exact lv_lload B.1 B.2.1 hdg (lv_at hL j hl) (kk H locs ls hI hL)
theorem z_aload_nN (B : zB X own cc nL Ts rm D tys I) {c : Fin 4} {i : Nat} (j : Nat) (hdg : decode cc pc = .ok (.aload_n c, 1)) (hi : (c : Nat) = i) (hl : lv[j]? = some (i, .null)) (kk : zJ X nL I Q w k n lv (pc + 1) (.null :: st)) : zJ X nL I Q w k n lv pc st := by
  intro H locs ls hI hL
  exact lv_aload_nN B.1 B.2.1 hdg hi (lv_at hL j hl) (kk H locs ls hI hL)
theorem z_aloadN (B : zB X own cc nL Ts rm D tys I) {i : Nat} (j : Nat) (hdg : decode cc pc = .ok (.aload i, 2)) (hl : lv[j]? = some (i, .null)) (kk : zJ X nL I Q w k n lv (pc + 2) (.null :: st)) : zJ X nL I Q w k n lv pc st := by
  intro H locs ls hI hL
  exact lv_aloadN B.1 B.2.1 hdg (lv_at hL j hl) (kk H locs ls hI hL)
theorem z_istore_n (B : zB X own cc nL Ts rm D tys I) {x : Int32} {c : Fin 4} {i : Nat} (lv1 : List (Nat × Value)) (hdg : decode cc pc = .ok (.istore_n c, 1)) (hi : (c : Nat) = i) (hn : i < nL) (hl : (i, Value.int x) :: lv.filter (fun q => !(q.1 == i) && !(q.1 + 1 == i && q.2.category == 2)) = lv1) (kk : zJ X nL I Q w k n lv1 (pc + 1) st) : zJ X nL I Q w k n lv pc (.int x :: st) := by
  intro H locs ls hI hL
  exact lv_istore_n B.1 B.2.1 hdg hi hL hn hl (fun ls' hL' => kk H locs ls' hI hL')
theorem z_istore (B : zB X own cc nL Ts rm D tys I) {x : Int32} {i : Nat} (lv1 : List (Nat × Value)) (hdg : decode cc pc = .ok (.istore i, 2)) (hn : i < nL) (hl : (i, Value.int x) :: lv.filter (fun q => !(q.1 == i) && !(q.1 + 1 == i && q.2.category == 2)) = lv1) (kk : zJ X nL I Q w k n lv1 (pc + 2) st) : zJ X nL I Q w k n lv pc (.int x :: st) := by
  intro H locs ls hI hL
  exact lv_istore B.1 B.2.1 hdg hL hn hl (fun ls' hL' => kk H locs ls' hI hL')
theorem z_astore_n (B : zB X own cc nL Ts rm D tys I) {x : Nat} {c : Fin 4} {i : Nat} (lv1 : List (Nat × Value)) (hdg : decode cc pc = .ok (.astore_n c, 1)) (hi : (c : Nat) = i) (hn : i < nL) (hl : (i, Value.ref x) :: lv.filter (fun q => !(q.1 == i) && !(q.1 + 1 == i && q.2.category == 2)) = lv1) (kk : zJ X nL I Q w k n lv1 (pc + 1) st) : zJ X nL I Q w k n lv pc (.ref x :: st) := by
  intro H locs ls hI hL
  exact lv_astore_n B.1 B.2.1 hdg hi hL hn hl (fun ls' hL' => kk H locs ls' hI hL')
theorem z_astore (B : zB X own cc nL Ts rm D tys I) {x : Nat} {i : Nat} (lv1 : List (Nat × Value)) (hdg : decode cc pc = .ok (.astore i, 2)) (hn : i < nL) (hl : (i, Value.ref x) :: lv.filter (fun q => !(q.1 == i) && !(q.1 + 1 == i && q.2.category == 2)) = lv1) (kk : zJ X nL I Q w k n lv1 (pc + 2) st) : zJ X nL I Q w k n lv pc (.ref x :: st) := by
  intro H locs ls hI hL
  exact lv_astore B.1 B.2.1 hdg hL hn hl (fun ls' hL' => kk H locs ls' hI hL')
theorem z_astore_nN (B : zB X own cc nL Ts rm D tys I) {c : Fin 4} {i : Nat} (lv1 : List (Nat × Value)) (hdg : decode cc pc = .ok (.astore_n c, 1)) (hi : (c : Nat) = i) (hn : i < nL) (hl : (i, Value.null) :: lv.filter (fun q => !(q.1 == i) && !(q.1 + 1 == i && q.2.category == 2)) = lv1) (kk : zJ X nL I Q w k n lv1 (pc + 1) st) : zJ X nL I Q w k n lv pc (.null :: st) := by
  intro H locs ls hI hL
  exact lv_astore_nN B.1 B.2.1 hdg hi hL hn hl (fun ls' hL' => kk H locs ls' hI hL')
theorem z_astoreN (B : zB X own cc nL Ts rm D tys I) {i : Nat} (lv1 : List (Nat × Value)) (hdg : decode cc pc = .ok (.astore i, 2)) (hn : i < nL) (hl : (i, Value.null) :: lv.filter (fun q => !(q.1 == i) && !(q.1 + 1 == i && q.2.category == 2)) = lv1) (kk : zJ X nL I Q w k n lv1 (pc + 2) st) : zJ X nL I Q w k n lv pc (.null :: st) := by
  intro H locs ls hI hL
  exact lv_astoreN B.1 B.2.1 hdg hL hn hl (fun ls' hL' => kk H locs ls' hI hL')
theorem z_iinc (B : zB X own cc nL Ts rm D tys I) {i : Nat} {c : Int} {x v : Int32} (j : Nat) (lv1 : List (Nat × Value)) (hdg : decode cc pc = .ok (.iinc i c, 3)) (hk : lv[j]? = some (i, .int x)) (hv : x + Int32.ofInt c = v) (hn : i < nL) (hl : (i, Value.int v) :: lv.filter (fun q => !(q.1 == i) && !(q.1 + 1 == i && q.2.category == 2)) = lv1) (kk : zJ X nL I Q w k n lv1 (pc + 3) st) : zJ X nL I Q w k n lv pc st := by
  intro H locs ls hI hL
  exact lv_iinc B.1 B.2.1 hdg hL hk hv hn hl (fun ls' hL' => kk H locs ls' hI hL')
theorem z_iadd (B : zB X own cc nL Ts rm D tys I) {x y : Int32} (hdg : decode cc pc = .ok (.iadd, 1)) (kk : zJ X nL I Q w k n lv (pc + 1) (.int (x + y) :: st)) : zJ X nL I Q w k n lv pc (.int y :: .int x :: st) := by
  intro H locs ls hI hL
  exact lv_iadd B.1 B.2.1 hdg (kk H locs ls hI hL)
theorem z_isub (B : zB X own cc nL Ts rm D tys I) {x y : Int32} (hdg : decode cc pc = .ok (.isub, 1)) (kk : zJ X nL I Q w k n lv (pc + 1) (.int (x - y) :: st)) : zJ X nL I Q w k n lv pc (.int y :: .int x :: st) := by
  intro H locs ls hI hL
  exact lv_isub B.1 B.2.1 hdg (kk H locs ls hI hL)
theorem z_imul (B : zB X own cc nL Ts rm D tys I) {x y : Int32} (hdg : decode cc pc = .ok (.imul, 1)) (kk : zJ X nL I Q w k n lv (pc + 1) (.int (x * y) :: st)) : zJ X nL I Q w k n lv pc (.int y :: .int x :: st) := by
  intro H locs ls hI hL
  exact lv_imul B.1 B.2.1 hdg (kk H locs ls hI hL)
theorem z_iand (B : zB X own cc nL Ts rm D tys I) {x y : Int32} (hdg : decode cc pc = .ok (.iand, 1)) (kk : zJ X nL I Q w k n lv (pc + 1) (.int (x &&& y) :: st)) : zJ X nL I Q w k n lv pc (.int y :: .int x :: st) := by
  intro H locs ls hI hL
  exact lv_iand B.1 B.2.1 hdg (kk H locs ls hI hL)
theorem z_ior (B : zB X own cc nL Ts rm D tys I) {x y : Int32} (hdg : decode cc pc = .ok (.ior, 1)) (kk : zJ X nL I Q w k n lv (pc + 1) (.int (x ||| y) :: st)) : zJ X nL I Q w k n lv pc (.int y :: .int x :: st) := by
  intro H locs ls hI hL
  exact lv_ior B.1 B.2.1 hdg (kk H locs ls hI hL)
theorem z_ixor (B : zB X own cc nL Ts rm D tys I) {x y : Int32} (hdg : decode cc pc = .ok (.ixor, 1)) (kk : zJ X nL I Q w k n lv (pc + 1) (.int (x ^^^ y) :: st)) : zJ X nL I Q w k n lv pc (.int y :: .int x :: st) := by
  intro H locs ls hI hL
  exact lv_ixor B.1 B.2.1 hdg (kk H locs ls hI hL)
theorem z_iaddN (B : zB X own cc nL Ts rm D tys I) {a b : Nat} (hdg : decode cc pc = .ok (.iadd, 1)) (kk : zJ X nL I Q w k n lv (pc + 1) (.int (nI (a + b)) :: st)) : zJ X nL I Q w k n lv pc (.int (nI b) :: .int (nI a) :: st) := by
  intro H locs ls hI hL
  exact lv_iadd B.1 B.2.1 hdg (by rw [nI_add]; exact kk H locs ls hI hL)
theorem z_imulN (B : zB X own cc nL Ts rm D tys I) {a b : Nat} (hdg : decode cc pc = .ok (.imul, 1)) (kk : zJ X nL I Q w k n lv (pc + 1) (.int (nI (a * b)) :: st)) : zJ X nL I Q w k n lv pc (.int (nI b) :: .int (nI a) :: st) := by
  intro H locs ls hI hL
  exact lv_imul B.1 B.2.1 hdg (by rw [pk_mul]; exact kk H locs ls hI hL)
theorem z_isubN (B : zB X own cc nL Ts rm D tys I) {a b : Nat} (hdg : decode cc pc = .ok (.isub, 1)) (hle : b ≤ a) (kk : zJ X nL I Q w k n lv (pc + 1) (.int (nI (a - b)) :: st)) : zJ X nL I Q w k n lv pc (.int (nI b) :: .int (nI a) :: st) := by
  intro H locs ls hI hL
  exact lv_isub B.1 B.2.1 hdg (by rw [pk_sub hle]; exact kk H locs ls hI hL)
theorem z_irem (B : zB X own cc nL Ts rm D tys I) {x y : Int32} (hdg : decode cc pc = .ok (.irem, 1)) (hne : ¬ y = 0) (kk : zJ X nL I Q w k n lv (pc + 1) (.int (x - x / y * y) :: st)) : zJ X nL I Q w k n lv pc (.int y :: .int x :: st) := by
  intro H locs ls hI hL
  exact lv_irem B.1 B.2.1 hdg hne (kk H locs ls hI hL)
theorem z_ineg (B : zB X own cc nL Ts rm D tys I) {x : Int32} (hdg : decode cc pc = .ok (.ineg, 1)) (kk : zJ X nL I Q w k n lv (pc + 1) (.int (-x) :: st)) : zJ X nL I Q w k n lv pc (.int x :: st) := by
  intro H locs ls hI hL
  exact lv_ineg B.1 B.2.1 hdg (kk H locs ls hI hL)
theorem z_ishl (B : zB X own cc nL Ts rm D tys I) {x y : Int32} (hdg : decode cc pc = .ok (.ishl, 1)) (kk : zJ X nL I Q w k n lv (pc + 1) (.int (x <<< (y &&& 31)) :: st)) : zJ X nL I Q w k n lv pc (.int y :: .int x :: st) := by
  intro H locs ls hI hL
  exact lv_ishl B.1 B.2.1 hdg (kk H locs ls hI hL)
theorem z_i2l (B : zB X own cc nL Ts rm D tys I) {x : Int32} (hdg : decode cc pc = .ok (.i2l, 1)) (kk : zJ X nL I Q w k n lv (pc + 1) (.long x.toInt64 :: st)) : zJ X nL I Q w k n lv pc (.int x :: st) := by
  intro H locs ls hI hL
  exact lv_i2l B.1 B.2.1 hdg rfl (kk H locs ls hI hL)
theorem z_lcmp (B : zB X own cc nL Ts rm D tys I) {x y : Int64} (hdg : decode cc pc = .ok (.lcmp, 1)) (kk : zJ X nL I Q w k n lv (pc + 1) (.int (lg_cmp x y) :: st)) : zJ X nL I Q w k n lv pc (.long y :: .long x :: st) := by
  intro H locs ls hI hL
  exact W.lcmp B.1 B.2.1 hdg (kk H locs ls hI hL)
theorem z_dup (B : zB X own cc nL Ts rm D tys I) {v : Value} (hdg : decode cc pc = .ok (.dup, 1)) (hv : v.category = 1) (kk : zJ X nL I Q w k n lv (pc + 1) (v :: v :: st)) : zJ X nL I Q w k n lv pc (v :: st) := by
  intro H locs ls hI hL
  exact lv_dup B.1 B.2.1 hdg hv (kk H locs ls hI hL)
theorem z_pop (B : zB X own cc nL Ts rm D tys I) {v : Value} (hdg : decode cc pc = .ok (.pop, 1)) (hv : v.category = 1) (kk : zJ X nL I Q w k n lv (pc + 1) st) : zJ X nL I Q w k n lv pc (v :: st) := by
  intro H locs ls hI hL
  exact lv_pop B.1 B.2.1 hdg hv (kk H locs ls hI hL)
theorem z_dup_x1 (B : zB X own cc nL Ts rm D tys I) {v u : Value} (hdg : decode cc pc = .ok (.dup_x1, 1)) (hv : v.category = 1) (hu : u.category = 1) (kk : zJ X nL I Q w k n lv (pc + 1) (v :: u :: v :: st)) : zJ X nL I Q w k n lv pc (v :: u :: st) := by
  intro H locs ls hI hL
  exact lv_dup_x1 B.1 B.2.1 hdg hv hu (kk H locs ls hI hL)
theorem z_if_eq (B : zB X own cc nL Ts rm D tys I) {x : Int32} {off : Int} (tgt : Nat) (hdg : decode cc pc = .ok (.ifCond .eq off, 3)) (ht : (pc : Int) + off = (tgt : Int)) (kt : x = 0 → zJ X nL I Q w k n lv tgt st) (kf : ¬ x = 0 → zJ X nL I Q w k n lv (pc + 3) st) : zJ X nL I Q w k n lv pc (.int x :: st) := by
  intro H locs ls hI hL
  exact lv_if_eq B.1 B.2.1 hdg ht (fun h => kt h H locs ls hI hL) (fun h => kf h H locs ls hI hL)
theorem z_if_ne (B : zB X own cc nL Ts rm D tys I) {x : Int32} {off : Int} (tgt : Nat) (hdg : decode cc pc = .ok (.ifCond .ne off, 3)) (ht : (pc : Int) + off = (tgt : Int)) (kt : ¬ x = 0 → zJ X nL I Q w k n lv tgt st) (kf : x = 0 → zJ X nL I Q w k n lv (pc + 3) st) : zJ X nL I Q w k n lv pc (.int x :: st) := by
  intro H locs ls hI hL
  exact lv_if_ne B.1 B.2.1 hdg ht (fun h => kt h H locs ls hI hL) (fun h => kf h H locs ls hI hL)
theorem z_if_lt (B : zB X own cc nL Ts rm D tys I) {x : Int32} {off : Int} (tgt : Nat) (hdg : decode cc pc = .ok (.ifCond .lt off, 3)) (ht : (pc : Int) + off = (tgt : Int)) (kt : x < 0 → zJ X nL I Q w k n lv tgt st) (kf : ¬ x < 0 → zJ X nL I Q w k n lv (pc + 3) st) : zJ X nL I Q w k n lv pc (.int x :: st) := by
  intro H locs ls hI hL
  exact lv_if_lt B.1 B.2.1 hdg ht (fun h => kt h H locs ls hI hL) (fun h => kf h H locs ls hI hL)
theorem z_if_ge (B : zB X own cc nL Ts rm D tys I) {x : Int32} {off : Int} (tgt : Nat) (hdg : decode cc pc = .ok (.ifCond .ge off, 3)) (ht : (pc : Int) + off = (tgt : Int)) (kt : 0 ≤ x → zJ X nL I Q w k n lv tgt st) (kf : ¬ 0 ≤ x → zJ X nL I Q w k n lv (pc + 3) st) : zJ X nL I Q w k n lv pc (.int x :: st) := by
  intro H locs ls hI hL
  exact lv_if_ge B.1 B.2.1 hdg ht (fun h => kt h H locs ls hI hL) (fun h => kf h H locs ls hI hL)
theorem z_if_gt (B : zB X own cc nL Ts rm D tys I) {x : Int32} {off : Int} (tgt : Nat) (hdg : decode cc pc = .ok (.ifCond .gt off, 3)) (ht : (pc : Int) + off = (tgt : Int)) (kt : 0 < x → zJ X nL I Q w k n lv tgt st) (kf : ¬ 0 < x → zJ X nL I Q w k n lv (pc + 3) st) : zJ X nL I Q w k n lv pc (.int x :: st) := by
  intro H locs ls hI hL
  exact lv_if_gt B.1 B.2.1 hdg ht (fun h => kt h H locs ls hI hL) (fun h => kf h H locs ls hI hL)
theorem z_if_le (B : zB X own cc nL Ts rm D tys I) {x : Int32} {off : Int} (tgt : Nat) (hdg : decode cc pc = .ok (.ifCond .le off, 3)) (ht : (pc : Int) + off = (tgt : Int)) (kt : x ≤ 0 → zJ X nL I Q w k n lv tgt st) (kf : ¬ x ≤ 0 → zJ X nL I Q w k n lv (pc + 3) st) : zJ X nL I Q w k n lv pc (.int x :: st) := by
  intro H locs ls hI hL
  exact lv_if_le B.1 B.2.1 hdg ht (fun h => kt h H locs ls hI hL) (fun h => kf h H locs ls hI hL)
theorem z_icmp_eq (B : zB X own cc nL Ts rm D tys I) {x y : Int32} {off : Int} (tgt : Nat) (hdg : decode cc pc = .ok (.if_icmp .eq off, 3)) (ht : (pc : Int) + off = (tgt : Int)) (kt : x = y → zJ X nL I Q w k n lv tgt st) (kf : ¬ x = y → zJ X nL I Q w k n lv (pc + 3) st) : zJ X nL I Q w k n lv pc (.int y :: .int x :: st) := by
  intro H locs ls hI hL
  exact lv_icmp_eq B.1 B.2.1 hdg ht (fun h => kt h H locs ls hI hL) (fun h => kf h H locs ls hI hL)
theorem z_icmp_ne (B : zB X own cc nL Ts rm D tys I) {x y : Int32} {off : Int} (tgt : Nat) (hdg : decode cc pc = .ok (.if_icmp .ne off, 3)) (ht : (pc : Int) + off = (tgt : Int)) (kt : ¬ x = y → zJ X nL I Q w k n lv tgt st) (kf : x = y → zJ X nL I Q w k n lv (pc + 3) st) : zJ X nL I Q w k n lv pc (.int y :: .int x :: st) := by
  intro H locs ls hI hL
  exact lv_icmp_ne B.1 B.2.1 hdg ht (fun h => kt h H locs ls hI hL) (fun h => kf h H locs ls hI hL)
theorem z_icmp_lt (B : zB X own cc nL Ts rm D tys I) {x y : Int32} {off : Int} (tgt : Nat) (hdg : decode cc pc = .ok (.if_icmp .lt off, 3)) (ht : (pc : Int) + off = (tgt : Int)) (kt : x < y → zJ X nL I Q w k n lv tgt st) (kf : ¬ x < y → zJ X nL I Q w k n lv (pc + 3) st) : zJ X nL I Q w k n lv pc (.int y :: .int x :: st) := by
  intro H locs ls hI hL
  exact lv_icmp_lt B.1 B.2.1 hdg ht (fun h => kt h H locs ls hI hL) (fun h => kf h H locs ls hI hL)
theorem z_icmp_ge (B : zB X own cc nL Ts rm D tys I) {x y : Int32} {off : Int} (tgt : Nat) (hdg : decode cc pc = .ok (.if_icmp .ge off, 3)) (ht : (pc : Int) + off = (tgt : Int)) (kt : y ≤ x → zJ X nL I Q w k n lv tgt st) (kf : ¬ y ≤ x → zJ X nL I Q w k n lv (pc + 3) st) : zJ X nL I Q w k n lv pc (.int y :: .int x :: st) := by
  intro H locs ls hI hL
  exact lv_icmp_ge B.1 B.2.1 hdg ht (fun h => kt h H locs ls hI hL) (fun h => kf h H locs ls hI hL)
theorem z_icmp_gt (B : zB X own cc nL Ts rm D tys I) {x y : Int32} {off : Int} (tgt : Nat) (hdg : decode cc pc = .ok (.if_icmp .gt off, 3)) (ht : (pc : Int) + off = (tgt : Int)) (kt : y < x → zJ X nL I Q w k n lv tgt st) (kf : ¬ y < x → zJ X nL I Q w k n lv (pc + 3) st) : zJ X nL I Q w k n lv pc (.int y :: .int x :: st) := by
  intro H locs ls hI hL
  exact lv_icmp_gt B.1 B.2.1 hdg ht (fun h => kt h H locs ls hI hL) (fun h => kf h H locs ls hI hL)
theorem z_icmp_le (B : zB X own cc nL Ts rm D tys I) {x y : Int32} {off : Int} (tgt : Nat) (hdg : decode cc pc = .ok (.if_icmp .le off, 3)) (ht : (pc : Int) + off = (tgt : Int)) (kt : x ≤ y → zJ X nL I Q w k n lv tgt st) (kf : ¬ x ≤ y → zJ X nL I Q w k n lv (pc + 3) st) : zJ X nL I Q w k n lv pc (.int y :: .int x :: st) := by
  intro H locs ls hI hL
  exact lv_icmp_le B.1 B.2.1 hdg ht (fun h => kt h H locs ls hI hL) (fun h => kf h H locs ls hI hL)
theorem z_icmpN_eq (B : zB X own cc nL Ts rm D tys I) {a b : Nat} {off : Int} (tgt : Nat) (hdg : decode cc pc = .ok (.if_icmp .eq off, 3)) (ht : (pc : Int) + off = (tgt : Int)) (ha : a < 2 ^ 31) (hb : b < 2 ^ 31) (kt : a = b → zJ X nL I Q w k n lv tgt st) (kf : a ≠ b → zJ X nL I Q w k n lv (pc + 3) st) : zJ X nL I Q w k n lv pc (.int (nI b) :: .int (nI a) :: st) := by
  intro H locs ls hI hL
  exact lv_icmp_eq B.1 B.2.1 hdg ht (fun h => kt ((nI_eq ha hb).mp h) H locs ls hI hL) (fun h => kf (fun e => h ((nI_eq ha hb).mpr e)) H locs ls hI hL)
theorem z_icmpN_ne (B : zB X own cc nL Ts rm D tys I) {a b : Nat} {off : Int} (tgt : Nat) (hdg : decode cc pc = .ok (.if_icmp .ne off, 3)) (ht : (pc : Int) + off = (tgt : Int)) (ha : a < 2 ^ 31) (hb : b < 2 ^ 31) (kt : a ≠ b → zJ X nL I Q w k n lv tgt st) (kf : a = b → zJ X nL I Q w k n lv (pc + 3) st) : zJ X nL I Q w k n lv pc (.int (nI b) :: .int (nI a) :: st) := by
  intro H locs ls hI hL
  exact lv_icmp_ne B.1 B.2.1 hdg ht (fun h => kt (fun e => h ((nI_eq ha hb).mpr e)) H locs ls hI hL) (fun h => kf ((nI_eq ha hb).mp h) H locs ls hI hL)
theorem z_icmpN_lt (B : zB X own cc nL Ts rm D tys I) {a b : Nat} {off : Int} (tgt : Nat) (hdg : decode cc pc = .ok (.if_icmp .lt off, 3)) (ht : (pc : Int) + off = (tgt : Int)) (ha : a < 2 ^ 31) (hb : b < 2 ^ 31) (kt : a < b → zJ X nL I Q w k n lv tgt st) (kf : b ≤ a → zJ X nL I Q w k n lv (pc + 3) st) : zJ X nL I Q w k n lv pc (.int (nI b) :: .int (nI a) :: st) := by
  intro H locs ls hI hL
  exact lv_icmp_lt B.1 B.2.1 hdg ht (fun h => kt ((nI_ltI ha hb).mp h) H locs ls hI hL) (fun h => kf (Nat.le_of_not_lt (fun e => h ((nI_ltI ha hb).mpr e))) H locs ls hI hL)
theorem z_icmpN_ge (B : zB X own cc nL Ts rm D tys I) {a b : Nat} {off : Int} (tgt : Nat) (hdg : decode cc pc = .ok (.if_icmp .ge off, 3)) (ht : (pc : Int) + off = (tgt : Int)) (ha : a < 2 ^ 31) (hb : b < 2 ^ 31) (kt : b ≤ a → zJ X nL I Q w k n lv tgt st) (kf : a < b → zJ X nL I Q w k n lv (pc + 3) st) : zJ X nL I Q w k n lv pc (.int (nI b) :: .int (nI a) :: st) := by
  intro H locs ls hI hL
  exact lv_icmp_ge B.1 B.2.1 hdg ht (fun h => kt ((nI_leI hb ha).mp h) H locs ls hI hL) (fun h => kf (Nat.lt_of_not_le (fun e => h ((nI_leI hb ha).mpr e))) H locs ls hI hL)
theorem z_icmpN_gt (B : zB X own cc nL Ts rm D tys I) {a b : Nat} {off : Int} (tgt : Nat) (hdg : decode cc pc = .ok (.if_icmp .gt off, 3)) (ht : (pc : Int) + off = (tgt : Int)) (ha : a < 2 ^ 31) (hb : b < 2 ^ 31) (kt : b < a → zJ X nL I Q w k n lv tgt st) (kf : a ≤ b → zJ X nL I Q w k n lv (pc + 3) st) : zJ X nL I Q w k n lv pc (.int (nI b) :: .int (nI a) :: st) := by
  intro H locs ls hI hL
  exact lv_icmp_gt B.1 B.2.1 hdg ht (fun h => kt ((nI_ltI hb ha).mp h) H locs ls hI hL) (fun h => kf (Nat.le_of_not_lt (fun e => h ((nI_ltI hb ha).mpr e))) H locs ls hI hL)
theorem z_icmpN_le (B : zB X own cc nL Ts rm D tys I) {a b : Nat} {off : Int} (tgt : Nat) (hdg : decode cc pc = .ok (.if_icmp .le off, 3)) (ht : (pc : Int) + off = (tgt : Int)) (ha : a < 2 ^ 31) (hb : b < 2 ^ 31) (kt : a ≤ b → zJ X nL I Q w k n lv tgt st) (kf : b < a → zJ X nL I Q w k n lv (pc + 3) st) : zJ X nL I Q w k n lv pc (.int (nI b) :: .int (nI a) :: st) := by
  intro H locs ls hI hL
  exact lv_icmp_le B.1 B.2.1 hdg ht (fun h => kt ((nI_leI ha hb).mp h) H locs ls hI hL) (fun h => kf (Nat.lt_of_not_le (fun e => h ((nI_leI ha hb).mpr e))) H locs ls hI hL)
noncomputable def bI (P : Prop) : Int32 := @ite _ P (Classical.propDecidable P) 1 0
theorem bI_t {P : Prop} (h : P) : bI P = 1 := if_pos h
theorem bI_f {P : Prop} (h : ¬ P) : bI P = 0 := if_neg h
theorem bI_0 {P : Prop} : bI P = 0 ↔ ¬ P := by
  by_cases h : P
  · rw [bI_t h]; exact ⟨fun e => absurd e (by decide), fun e => absurd h e⟩
  · rw [bI_f h]; exact ⟨fun _ => h, fun _ => rfl⟩
theorem bI_n0 {P : Prop} : ¬ bI P = 0 ↔ P := by rw [bI_0]; exact Classical.not_not
theorem bI_or (P : Prop) : bI P = 0 ∨ bI P = 1 := by
  by_cases h : P
  · exact Or.inr (bI_t h)
  · exact Or.inl (bI_f h)
theorem bI_cg {P R : Prop} (h : P ↔ R) : bI P = bI R := by rw [propext h]
theorem bI_1 {P : Prop} (h : P) : nI 1 = bI P := (bI_t h).symm
theorem bI_z {P : Prop} (h : ¬ P) : nI 0 = bI P := (bI_f h).symm
theorem nar_b {x : Int32} (h : x = 0 ∨ x = 1) : narrow .boolean (.int x) = .int x := by rcases h with rfl | rfl <;> rfl
theorem nar_v {x : Int32} (h : x = 0 ∨ x = 1) : vp_nar .boolean x = x := by rcases h with rfl | rfl <;> rfl
theorem fit_b {x : Int32} (h : x = 0 ∨ x = 1) : fits .boolean (.int x) = true := by rcases h with rfl | rfl <;> rfl
theorem z_ifB_eq (B : zB X own cc nL Ts rm D tys I) {P : Prop} {off : Int} (tgt : Nat) (hdg : decode cc pc = .ok (.ifCond .eq off, 3)) (ht : (pc : Int) + off = (tgt : Int)) (kt : ¬ P → zJ X nL I Q w k n lv tgt st) (kf : P → zJ X nL I Q w k n lv (pc + 3) st) : zJ X nL I Q w k n lv pc (.int (bI P) :: st) := by
  intro H locs ls hI hL
  exact lv_if_eq B.1 B.2.1 hdg ht (fun h => kt (bI_0.mp h) H locs ls hI hL) (fun h => kf (bI_n0.mp h) H locs ls hI hL)
theorem z_ifB_ne (B : zB X own cc nL Ts rm D tys I) {P : Prop} {off : Int} (tgt : Nat) (hdg : decode cc pc = .ok (.ifCond .ne off, 3)) (ht : (pc : Int) + off = (tgt : Int)) (kt : P → zJ X nL I Q w k n lv tgt st) (kf : ¬ P → zJ X nL I Q w k n lv (pc + 3) st) : zJ X nL I Q w k n lv pc (.int (bI P) :: st) := by
  intro H locs ls hI hL
  exact lv_if_ne B.1 B.2.1 hdg ht (fun h => kt (bI_n0.mp h) H locs ls hI hL) (fun h => kf (bI_0.mp h) H locs ls hI hL)
theorem z_goto (B : zB X own cc nL Ts rm D tys I) {off : Int} (tgt : Nat) (hdg : decode cc pc = .ok (.goto off, 3)) (ht : (pc : Int) + off = (tgt : Int)) (kk : zJ X nL I Q w k n lv tgt st) : zJ X nL I Q w k n lv pc st := by
  intro H locs ls hI hL
  exact lv_goto B.1 B.2.1 hdg ht (kk H locs ls hI hL)
theorem z_ifnull (B : zB X own cc nL Ts rm D tys I) {x : Nat} {off : Int} (hdg : decode cc pc = .ok (.ifnull off, 3)) (kk : zJ X nL I Q w k n lv (pc + 3) st) : zJ X nL I Q w k n lv pc (.ref x :: st) := by
  intro H locs ls hI hL
  exact lv_ifnull B.1 B.2.1 hdg (kk H locs ls hI hL)
theorem z_ifnullN (B : zB X own cc nL Ts rm D tys I) {off : Int} (tgt : Nat) (hdg : decode cc pc = .ok (.ifnull off, 3)) (ht : (pc : Int) + off = (tgt : Int)) (kk : zJ X nL I Q w k n lv tgt st) : zJ X nL I Q w k n lv pc (.null :: st) := by
  intro H locs ls hI hL
  exact lv_ifnullN B.1 B.2.1 hdg ht (kk H locs ls hI hL)
theorem z_ifnonnull (B : zB X own cc nL Ts rm D tys I) {x : Nat} {off : Int} (tgt : Nat) (hdg : decode cc pc = .ok (.ifnonnull off, 3)) (ht : (pc : Int) + off = (tgt : Int)) (kk : zJ X nL I Q w k n lv tgt st) : zJ X nL I Q w k n lv pc (.ref x :: st) := by
  intro H locs ls hI hL
  exact lv_ifnonnull B.1 B.2.1 hdg ht (kk H locs ls hI hL)
theorem z_ifnonnullN (B : zB X own cc nL Ts rm D tys I) {off : Int} (hdg : decode cc pc = .ok (.ifnonnull off, 3)) (kk : zJ X nL I Q w k n lv (pc + 3) st) : zJ X nL I Q w k n lv pc (.null :: st) := by
  intro H locs ls hI hL
  exact lv_ifnonnullN B.1 B.2.1 hdg (kk H locs ls hI hL)
theorem z_acmp_eq (B : zB X own cc nL Ts rm D tys I) (rx ry : Option Nat) {vx vy : Value} {off : Int} (ex : vx = va_rf rx) (ey : vy = va_rf ry) (tgt : Nat) (hdg : decode cc pc = .ok (.if_acmp .eq off, 3)) (ht : (pc : Int) + off = (tgt : Int)) (kt : rx = ry → zJ X nL I Q w k n lv tgt st) (kf : ¬ rx = ry → zJ X nL I Q w k n lv (pc + 3) st) : zJ X nL I Q w k n lv pc (vy :: vx :: st) := by
  intro H locs ls hI hL
  subst ex; subst ey; exact lv_acmp_eq B.1 B.2.1 hdg ht (fun h => kt h H locs ls hI hL) (fun h => kf h H locs ls hI hL)
theorem z_acmp_ne (B : zB X own cc nL Ts rm D tys I) (rx ry : Option Nat) {vx vy : Value} {off : Int} (ex : vx = va_rf rx) (ey : vy = va_rf ry) (tgt : Nat) (hdg : decode cc pc = .ok (.if_acmp .ne off, 3)) (ht : (pc : Int) + off = (tgt : Int)) (kt : ¬ rx = ry → zJ X nL I Q w k n lv tgt st) (kf : rx = ry → zJ X nL I Q w k n lv (pc + 3) st) : zJ X nL I Q w k n lv pc (vy :: vx :: st) := by
  intro H locs ls hI hL
  subst ex; subst ey; exact lv_acmp_ne B.1 B.2.1 hdg ht (fun h => kt h H locs ls hI hL) (fun h => kf h H locs ls hI hL)
/-- the words of a class's fields stand among the method's -/
abbrev zF (Ts : List Cond) (C : String) (T : u_T) (N : Nat) : Prop := ∀ w ∈ u_ws C T N, w ∈ Ts
theorem z_get (B : zB X own cc nL Ts rm D tys I) {ref C : String} {T : u_T} {N ci index a : Nat} {fs : List Value} {v : Value} (q f i : Nat) (hF : zF Ts C T N) (he : w[q]? = some (a, .inr (ci, fs))) (hc : vwCl[ci]? = some (C, T, N)) (hf : f < N) (hk : Ts[i]? = some (Cond.fieldLink own index ref (T f).2.1 (T f).2.2.1)) (hsame : (T f).1 = ref) (hv : fs[f]? = some v) (hdg : decode cc pc = .ok (.getfield index, 3)) (kk : zJ X nL I Q w k n lv (pc + 3) (v :: st)) : zJ X nL I Q w k n lv pc (.ref a :: st) := by
  intro H locs ls hI hL
  exact va_get B.1 B.2.1 B.2.2.2.2.1 hF B.2.2.2.1 B.2.2.2.2.2.1 (B.2.2.2.2.2.2.1 w H locs hI) q he hc f hf (zts B i hk) (fun x h => by rw [← hsame]; exact h) hv hdg (kk H locs ls hI hL)
theorem z_iald (B : zB X own cc nL Ts rm D tys I) {cA : ClassId} {N a : Nat} {g : Nat → Int32} {i : Nat} (q t : Nat) (he : w[q]? = some (a, .inl (cA, N, .inl g))) (ht : tys[t]? = some (cA, .int)) (hi : i < N) (hN : N < 2 ^ 31) (hdg : decode cc pc = .ok (.iaload, 1)) (kk : zJ X nL I Q w k n lv (pc + 1) (.int (g i) :: st)) : zJ X nL I Q w k n lv pc (.int (nI i) :: .ref a :: st) := by
  intro H locs ls hI hL
  exact va_iald B.1 B.2.1 B.2.2.2.2.2.1 (B.2.2.2.2.2.2.1 w H locs hI) q t he ht (vp_in_nI hi hN) hdg (by rw [nI_clamp (by omega)]; exact kk H locs ls hI hL)
theorem z_zald (B : zB X own cc nL Ts rm D tys I) {cA : ClassId} {N a : Nat} {g : Nat → Int32} {i : Nat} (q t : Nat) (he : w[q]? = some (a, .inl (cA, N, .inl g))) (ht : tys[t]? = some (cA, .boolean)) (hi : i < N) (hN : N < 2 ^ 31) (hdg : decode cc pc = .ok (.baload, 1)) (kk : zJ X nL I Q w k n lv (pc + 1) (.int (g i) :: st)) : zJ X nL I Q w k n lv pc (.int (nI i) :: .ref a :: st) := by
  intro H locs ls hI hL
  exact va_zald B.1 B.2.1 B.2.2.2.2.2.1 (B.2.2.2.2.2.2.1 w H locs hI) q t he ht (vp_in_nI hi hN) hdg (by rw [nI_clamp (by omega)]; exact kk H locs ls hI hL)
theorem z_aldq (B : zB X own cc nL Ts rm D tys I) {cA : ClassId} {C : String} {N a : Nat} {g : Nat → Option Nat} {i : Nat} (q t : Nat) (he : w[q]? = some (a, .inl (cA, N, .inr (.inr (.inr (.inr g)))))) (ht : tys[t]? = some (cA, .object C)) (hi : i < N) (hN : N < 2 ^ 31) (hdg : decode cc pc = .ok (.aaload, 1)) (kk : zJ X nL I Q w k n lv (pc + 1) (va_rf (g i) :: st)) : zJ X nL I Q w k n lv pc (.int (nI i) :: .ref a :: st) := by
  intro H locs ls hI hL
  exact va_aldq B.1 B.2.1 B.2.2.2.2.2.1 (B.2.2.2.2.2.2.1 w H locs hI) q t he ht (vp_in_nI hi hN) hdg (by rw [nI_clamp (by omega)]; exact kk H locs ls hI hL)
theorem z_alen (B : zB X own cc nL Ts rm D tys I) {cA : ClassId} {a : Nat} {x : vp_A} {ty : FieldType} {v : Int32} (q t : Nat) (he : w[q]? = some (a, .inl (cA, x))) (ht : tys[t]? = some (cA, ty)) (hv : Int32.ofNat x.1 = v) (hdg : decode cc pc = .ok (.arraylength, 1)) (kk : zJ X nL I Q w k n lv (pc + 1) (.int v :: st)) : zJ X nL I Q w k n lv pc (.ref a :: st) := by
  intro H locs ls hI hL
  exact va_alen B.1 B.2.1 B.2.2.2.2.2.1 (B.2.2.2.2.2.2.1 w H locs hI) q t he ht hv hdg (kk H locs ls hI hL)
end ZR
section ZM
variable {X : zX} {own : String} {cc : ByteArray} {nL : Nat} {Ts : List Cond} {rm : Room} {D : va_G} {tys : List (ClassId × FieldType)} {A : Nat → Prop} {Q : State → Prop} {w : va_W} {k n : Nat} {lv lv' : List (Nat × Value)} {pc : Nat} {st : List Value}
theorem z_put (B : zB X own cc nL Ts rm D tys (zI1 D A (zs X))) {ref C : String} {T : u_T} {N ci index a : Nat} {fs : List Value} {v : Value} {w' : va_W} (q f i : Nat) (hF : zF Ts C T N) (ty0 : Nat → FieldType) (hty : ∀ k, k < N → parseFieldDescriptor (T k).2.2.1 = some (ty0 k)) (hnm : ∀ a, a < N → ∀ b, b < N → a ≠ b → (T a).2.1 ≠ (T b).2.1) (he : w[q]? = some (a, .inr (ci, fs))) (hc : vwCl[ci]? = some (C, T, N)) (hf : f < N) (hk : Ts[i]? = some (Cond.fieldLink own index ref (T f).2.1 (T f).2.2.1)) (hsame : (T f).1 = ref) (hfin : (T f).2.2.2 = false) (hn : narrow (ty0 f) v = v) (hfit : fits (ty0 f) v = true) (hl : f < fs.length) (hdg : decode cc pc = .ok (.putfield index, 3)) (hw : w.set q (a, .inr (ci, fs.set f v)) = w') (kk : zJ X nL (zI1 D A (zs X)) Q w' k n lv (pc + 3) st) : zJ X nL (zI1 D A (zs X)) Q w k n lv pc (v :: .ref a :: st) := by
  rintro H locs ls ⟨hP, hD, hS, hA⟩ hL
  exact va_put B.1 B.2.1 B.2.2.2.2.1 hF ty0 hty hnm B.2.2.2.1 B.2.2.2.2.2.1 hP hD hS q he hc f hf (zts B i hk) (fun x h => by rw [← hsame]; exact h) hfin (hty f hf) hn hfit hl hdg (fun H1 locs1 hP1 hD1 hS1 => kk H1 locs1 ls ⟨hw ▸ hP1, hw ▸ hD1, hS1, hA⟩ hL)
theorem z_putF (B : zB X own cc nL Ts rm D tys (zI1 D A (zs X))) {ref C : String} {T : u_T} {N ci index a : Nat} {fs : List Value} {v : Value} {w' : va_W} (q f i : Nat) (hF : zF Ts C T N) (ty0 : Nat → FieldType) (hty : ∀ k, k < N → parseFieldDescriptor (T k).2.2.1 = some (ty0 k)) (hnm : ∀ a, a < N → ∀ b, b < N → a ≠ b → (T a).2.1 ≠ (T b).2.1) (he : w[q]? = some (a, .inr (ci, fs))) (hc : vwCl[ci]? = some (C, T, N)) (hf : f < N) (hk : Ts[i]? = some (Cond.fieldLink own index ref (T f).2.1 (T f).2.2.1)) (hsame : (T f).1 = ref) (hfin : (T f).2.2.2 = true) (hin2 : (zmeth X).name = "<init>") (hdecl : (T f).1 = own) (hn : narrow (ty0 f) v = v) (hfit : fits (ty0 f) v = true) (hl : f < fs.length) (hdg : decode cc pc = .ok (.putfield index, 3)) (hw : w.set q (a, .inr (ci, fs.set f v)) = w') (kk : zJ X nL (zI1 D A (zs X)) Q w' k n lv (pc + 3) st) : zJ X nL (zI1 D A (zs X)) Q w k n lv pc (v :: .ref a :: st) := by
  rintro H locs ls ⟨hP, hD, hS, hA⟩ hL
  exact va_putF B.1 B.2.1 B.2.2.2.2.1 hF ty0 hty hnm B.2.2.2.1 B.2.2.2.2.2.1 hP hD hS q he hc f hf (zts B i hk) (fun x h => by rw [← hsame]; exact h) hfin hin2 hdecl (hty f hf) hn hfit hl hdg (fun H1 locs1 hP1 hD1 hS1 => kk H1 locs1 ls ⟨hw ▸ hP1, hw ▸ hD1, hS1, hA⟩ hL)
theorem z_iast (B : zB X own cc nL Ts rm D tys (zI1 D A (zs X))) {cA : ClassId} {N a : Nat} {g : Nat → Int32} {i : Nat} {x : Int32} {w' : va_W} (q t : Nat) (he : w[q]? = some (a, .inl (cA, N, .inl g))) (ht : tys[t]? = some (cA, .int)) (hi : i < N) (hN : N < 2 ^ 31) (hdg : decode cc pc = .ok (.iastore, 1)) (hw : w.set q (a, .inl (cA, N, .inl (upd g i x))) = w') (kk : zJ X nL (zI1 D A (zs X)) Q w' k n lv (pc + 1) st) : zJ X nL (zI1 D A (zs X)) Q w k n lv pc (.int x :: .int (nI i) :: .ref a :: st) := by
  rintro H locs ls ⟨hP, hD, hS, hA⟩ hL
  exact va_iast B.1 B.2.1 B.2.2.2.2.2.1 hP hD hS q t he ht (vp_in_nI hi hN) hdg (fun H1 locs1 hP1 hD1 hS1 => by rw [nI_clamp (by omega), hw] at hP1 hD1; exact kk H1 locs1 ls ⟨hP1, hD1, hS1, hA⟩ hL)
theorem z_zast (B : zB X own cc nL Ts rm D tys (zI1 D A (zs X))) {cA : ClassId} {N a : Nat} {g : Nat → Int32} {i : Nat} {x : Int32} {w' : va_W} (q t : Nat) (he : w[q]? = some (a, .inl (cA, N, .inl g))) (ht : tys[t]? = some (cA, .boolean)) (hi : i < N) (hN : N < 2 ^ 31) (hx : x = 0 ∨ x = 1) (hdg : decode cc pc = .ok (.bastore, 1)) (hw : w.set q (a, .inl (cA, N, .inl (upd g i x))) = w') (kk : zJ X nL (zI1 D A (zs X)) Q w' k n lv (pc + 1) st) : zJ X nL (zI1 D A (zs X)) Q w k n lv pc (.int x :: .int (nI i) :: .ref a :: st) := by
  rintro H locs ls ⟨hP, hD, hS, hA⟩ hL
  exact va_zast B.1 B.2.1 B.2.2.2.2.2.1 hP hD hS q t he ht (vp_in_nI hi hN) hdg (fun H1 locs1 hP1 hD1 hS1 => by rw [nI_clamp (by omega), nar_v hx, hw] at hP1 hD1; exact kk H1 locs1 ls ⟨hP1, hD1, hS1, hA⟩ hL)
theorem z_last (B : zB X own cc nL Ts rm D tys (zI1 D A (zs X))) {cA : ClassId} {N a : Nat} {g : Nat → Int64} {i : Nat} {x : Int64} {w' : va_W} (q t : Nat) (he : w[q]? = some (a, .inl (cA, N, .inr (.inl g)))) (ht : tys[t]? = some (cA, .long)) (hi : i < N) (hN : N < 2 ^ 31) (hdg : decode cc pc = .ok (.lastore, 1)) (hw : w.set q (a, .inl (cA, N, .inr (.inl (vp_updL g i x)))) = w') (kk : zJ X nL (zI1 D A (zs X)) Q w' k n lv (pc + 1) st) : zJ X nL (zI1 D A (zs X)) Q w k n lv pc (.long x :: .int (nI i) :: .ref a :: st) := by
  rintro H locs ls ⟨hP, hD, hS, hA⟩ hL
  exact va_last B.1 B.2.1 B.2.2.2.2.2.1 hP hD hS q t he ht (vp_in_nI hi hN) hdg (fun H1 locs1 hP1 hD1 hS1 => by rw [nI_clamp (by omega), hw] at hP1 hD1; exact kk H1 locs1 ls ⟨hP1, hD1, hS1, hA⟩ hL)
theorem z_astq (B : zB X own cc nL Ts rm D tys (zI1 D A (zs X))) {cA : ClassId} {r : vw_C} {N a v : Nat} {vs : List Value} {g : Nat → Option Nat} {i : Nat} {w' : va_W} (q t qk ci : Nat) (he : w[q]? = some (a, .inl (cA, N, .inr (.inr (.inr (.inr g)))))) (ht : tys[t]? = some (cA, .object r.1)) (hv : w[qk]? = some (v, .inr (ci, vs))) (hc : vwCl[ci]? = some r) (hi : i < N) (hN : N < 2 ^ 31) (hdg : decode cc pc = .ok (.aastore, 1)) (hw : w.set q (a, .inl (cA, N, .inr (.inr (.inr (.inr (va_up g i (some v))))))) = w') (kk : zJ X nL (zI1 D A (zs X)) Q w' k n lv (pc + 1) st) : zJ X nL (zI1 D A (zs X)) Q w k n lv pc (.ref v :: .int (nI i) :: .ref a :: st) := by
  rintro H locs ls ⟨hP, hD, hS, hA⟩ hL
  exact va_astq B.1 B.2.1 B.2.2.2.2.2.1 hP hD hS q t qk ci he ht hv hc (vp_in_nI hi hN) hdg (fun H1 locs1 hP1 hD1 hS1 => by rw [nI_clamp (by omega), hw] at hP1 hD1; exact kk H1 locs1 ls ⟨hP1, hD1, hS1, hA⟩ hL)
theorem z_astqN (B : zB X own cc nL Ts rm D tys (zI1 D A (zs X))) {cA : ClassId} {C : String} {N a : Nat} {g : Nat → Option Nat} {i : Nat} {w' : va_W} (q t : Nat) (he : w[q]? = some (a, .inl (cA, N, .inr (.inr (.inr (.inr g)))))) (ht : tys[t]? = some (cA, .object C)) (hi : i < N) (hN : N < 2 ^ 31) (hdg : decode cc pc = .ok (.aastore, 1)) (hw : w.set q (a, .inl (cA, N, .inr (.inr (.inr (.inr (va_up g i none)))))) = w') (kk : zJ X nL (zI1 D A (zs X)) Q w' k n lv (pc + 1) st) : zJ X nL (zI1 D A (zs X)) Q w k n lv pc (.null :: .int (nI i) :: .ref a :: st) := by
  rintro H locs ls ⟨hP, hD, hS, hA⟩ hL
  exact va_astqN B.1 B.2.1 B.2.2.2.2.2.1 hP hD hS q t he ht (vp_in_nI hi hN) hdg (fun H1 locs1 hP1 hD1 hS1 => by rw [nI_clamp (by omega), hw] at hP1 hD1; exact kk H1 locs1 ls ⟨hP1, hD1, hS1, hA⟩ hL)
end ZM
/-! contracts -/
def zPure (l : Launch) (y : MethodName) (ws : List Cond) (rm : Room) (D : va_G) (tys : List (ClassId × FieldType)) (w : va_W) (As : List Value) (post : Int32 → Prop) : Prop :=
  Met l y ws rm (va_Pc As (fun U => va_P D vwCl w U.heap ∧ va_K D vwCl tys U)) (vp_Si post) 0 0 (fun _ => False)
def zPureQ (l : Launch) (y : MethodName) (ws : List Cond) (rm : Room) (D : va_G) (tys : List (ClassId × FieldType)) (w : va_W) (As : List Value) (post : Option Nat → Prop) : Prop :=
  Met l y ws rm (va_Pc As (fun U => va_P D vwCl w U.heap ∧ va_K D vwCl tys U)) (va_Sq post) 0 0 (fun _ => False)
def zPre (D : va_G) (tys : List (ClassId × FieldType)) (w : va_W) (sz : Nat) (U : State) : Prop := U.heap.size = sz ∧ va_P D vwCl w U.heap ∧ va_K D vwCl tys U ∧ va_D (fun _ => True) w
def zEnd (D : va_G) (tys : List (ClassId × FieldType)) (w : va_W) (sz : Nat) (w' : va_W) (t : State) : Prop := va_P D vwCl w' t.heap ∧ va_K D vwCl tys t ∧ va_D (va_A w sz) w'
def zMutI (l : Launch) (y : MethodName) (ws : List Cond) (rm : Room) (D : va_G) (tys : List (ClassId × FieldType)) (w : va_W) (As : List Value) (post : Int32 → va_W → Prop) (mc ms : Nat) : Prop :=
  ∀ sz, Met l y ws rm (va_Pc As (zPre D tys w sz)) (va_Qi post (zEnd D tys w sz) (va_A w sz)) mc ms (va_A w sz)
def zMutV (l : Launch) (y : MethodName) (ws : List Cond) (rm : Room) (D : va_G) (tys : List (ClassId × FieldType)) (w : va_W) (As : List Value) (post : va_W → Prop) (mc ms : Nat) : Prop :=
  ∀ sz, Met l y ws rm (va_Pc As (zPre D tys w sz)) (va_Qv post (zEnd D tys w sz) (va_A w sz)) mc ms (va_A w sz)
def zQe (X : zX) (Qc : Array Value → State → Outcome → State → Prop) (mc ms : Nat) (free : Addr → Prop) : State → Prop := MQ (zb X) Qc (za X) (zs X) mc ms free
theorem zPre_moved {D : va_G} {tys : List (ClassId × FieldType)} {w : va_W} {sz : Nat} {U : State} {g : JFrame} {mk : MethodId} {a : Array Value} (h : zPre D tys w sz U) : zPre D tys w sz (U.calling g mk a) :=
  ⟨h.1, h.2.1, va_K.moved (u := U) (U := U.calling g mk a) (Vm.Alike.refl U.vm) h.2.2.1, h.2.2.2⟩
section ZC
variable {l : Launch} {y : MethodName} {ws ws' : List Cond} {rm : Room} {D : va_G} {tys : List (ClassId × FieldType)} {w : va_W} {As : List Value} {cc : ByteArray} {maxL : Nat} {ret : Option FieldType} {own : String}
theorem zPure_of {post : Int32 → Prop} (lv : List (Nat × Value)) (hy : plainName y.cls = true) (ho : y.cls = own) (hw : ws = Cond.code y cc maxL ret :: ws') (hlv : lv_args 0 As = lv) (hn : (lg_sl As).length ≤ maxL)
    (body : ∀ X : zX, zl X = l → zB X own cc maxL ws rm D tys (zI0 D (zs X)) → (zmeth X).sig.returnType = ret → zJ X maxL (zI0 D (zs X)) (zQe X (vp_Si post) 0 0 (fun _ => False)) w 0 0 lv 0 []) : zPure l y ws rm D tys w As post := by
  refine Met.ofW (cc := cc) (maxL := maxL) (ret := ret) hy hw ?_
  intro p e s m args below meth c s₁ B hml hv
  obtain ⟨rfl, hP, hK⟩ := hv
  rw [lg_entry_eq]
  have h := body (p, l, e, (headSpec ws rm).room, s, m, As.toArray, below, meth, c) rfl ⟨B.exec, B.bytes, hml, ho ▸ findClass_of_methodNamed B.named, atoms_spec (ws := ws) B.pre, hK, fun w H locs h => h.1, rfl, B.notSynchronized⟩ B.returns
  exact h s.heap [] _ ⟨hP, rfl, rfl⟩ (hlv ▸ lv_entry As hn)
theorem zPureQ_of {post : Option Nat → Prop} (lv : List (Nat × Value)) (hy : plainName y.cls = true) (ho : y.cls = own) (hw : ws = Cond.code y cc maxL ret :: ws') (hlv : lv_args 0 As = lv) (hn : (lg_sl As).length ≤ maxL)
    (body : ∀ X : zX, zl X = l → zB X own cc maxL ws rm D tys (zI0 D (zs X)) → (zmeth X).sig.returnType = ret → zJ X maxL (zI0 D (zs X)) (zQe X (va_Sq post) 0 0 (fun _ => False)) w 0 0 lv 0 []) : zPureQ l y ws rm D tys w As post := by
  refine Met.ofW (cc := cc) (maxL := maxL) (ret := ret) hy hw ?_
  intro p e s m args below meth c s₁ B hml hv
  obtain ⟨rfl, hP, hK⟩ := hv
  rw [lg_entry_eq]
  have h := body (p, l, e, (headSpec ws rm).room, s, m, As.toArray, below, meth, c) rfl ⟨B.exec, B.bytes, hml, ho ▸ findClass_of_methodNamed B.named, atoms_spec (ws := ws) B.pre, hK, fun w H locs h => h.1, rfl, B.notSynchronized⟩ B.returns
  exact h s.heap [] _ ⟨hP, rfl, rfl⟩ (hlv ▸ lv_entry As hn)
theorem zMutI_of {post : Int32 → va_W → Prop} {mc ms : Nat} (lv : List (Nat × Value)) (hy : plainName y.cls = true) (ho : y.cls = own) (hw : ws = Cond.code y cc maxL ret :: ws') (hlv : lv_args 0 As = lv) (hn : (lg_sl As).length ≤ maxL)
    (body : ∀ (X : zX) (A : Nat → Prop), A = va_A w (zs X).heap.size → zl X = l → zB X own cc maxL ws rm D tys (zI1 D A (zs X)) → (zmeth X).sig.returnType = ret → (zmeth X).name = y.name → zJ X maxL (zI1 D A (zs X)) (zQe X (va_Qi post (zEnd D tys w (zs X).heap.size) A) mc ms A) w 0 0 lv 0 []) : zMutI l y ws rm D tys w As post mc ms := by
  intro sz
  refine Met.ofW (cc := cc) (maxL := maxL) (ret := ret) hy hw ?_
  intro p e s m args below meth c s₁ B hml hv
  obtain ⟨rfl, rfl, hP, hK, hD⟩ := hv
  rw [lg_entry_eq]
  have h := body (p, l, e, (headSpec ws rm).room, s, m, As.toArray, below, meth, c) _ rfl rfl ⟨B.exec, B.bytes, hml, ho ▸ findClass_of_methodNamed B.named, atoms_spec (ws := ws) B.pre, hK, fun w H locs h => h.1, rfl, B.notSynchronized⟩ B.returns (name_of_methodNamed B.named B.method).1
  exact h s.heap [] _ ⟨hP, hD.self, va_S.rf, fun q h => Or.inr h⟩ (hlv ▸ lv_entry As hn)
theorem zMutV_of {post : va_W → Prop} {mc ms : Nat} (lv : List (Nat × Value)) (hy : plainName y.cls = true) (ho : y.cls = own) (hw : ws = Cond.code y cc maxL ret :: ws') (hlv : lv_args 0 As = lv) (hn : (lg_sl As).length ≤ maxL)
    (body : ∀ (X : zX) (A : Nat → Prop), A = va_A w (zs X).heap.size → zl X = l → zB X own cc maxL ws rm D tys (zI1 D A (zs X)) → (zmeth X).sig.returnType = ret → (zmeth X).name = y.name → zJ X maxL (zI1 D A (zs X)) (zQe X (va_Qv post (zEnd D tys w (zs X).heap.size) A) mc ms A) w 0 0 lv 0 []) : zMutV l y ws rm D tys w As post mc ms := by
  intro sz
  refine Met.ofW (cc := cc) (maxL := maxL) (ret := ret) hy hw ?_
  intro p e s m args below meth c s₁ B hml hv
  obtain ⟨rfl, rfl, hP, hK, hD⟩ := hv
  rw [lg_entry_eq]
  have h := body (p, l, e, (headSpec ws rm).room, s, m, As.toArray, below, meth, c) _ rfl rfl ⟨B.exec, B.bytes, hml, ho ▸ findClass_of_methodNamed B.named, atoms_spec (ws := ws) B.pre, hK, fun w H locs h => h.1, rfl, B.notSynchronized⟩ B.returns (name_of_methodNamed B.named B.method).1
  exact h s.heap [] _ ⟨hP, hD.self, va_S.rf, fun q h => Or.inr h⟩ (hlv ▸ lv_entry As hn)
end ZC
section ZE
variable {X : zX} {own : String} {cc : ByteArray} {nL : Nat} {Ts : List Cond} {rm : Room} {D : va_G} {tys : List (ClassId × FieldType)} {w w0 : va_W} {A : Nat → Prop} {k n mc ms : Nat} {lv : List (Nat × Value)} {pc : Nat}
/-- ends -/
theorem z_pret {post : Int32 → Prop} {x : Int32} {ty : FieldType} (B : zB X own cc nL Ts rm D tys (zI0 D (zs X))) (hr : (zmeth X).sig.returnType = some ty) (hdg : decode cc pc = .ok (.ireturn, 1)) (hn : narrow ty (.int x) = .int x) (hp : post x) : zJ X nL (zI0 D (zs X)) (zQe X (vp_Si post) 0 0 (fun _ => False)) w 0 0 lv pc [.int x] := by
  rintro H locs ls ⟨hP, rfl, rfl⟩ hL
  exact W.zret B.1 B.2.1 hr hn (fun t ht hW => ⟨x, rfl, hp, ht⟩) (fun q h => by cases h) hdg B.2.2.2.2.2.2.2.2
theorem z_pretQ {post : Option Nat → Prop} {r : Option Nat} {v : Value} {nm : String} (B : zB X own cc nL Ts rm D tys (zI0 D (zs X))) (hr : (zmeth X).sig.returnType = some (.object nm)) (hdg : decode cc pc = .ok (.areturn, 1)) (hv : v = va_rf r) (hp : post r) : zJ X nL (zI0 D (zs X)) (zQe X (va_Sq post) 0 0 (fun _ => False)) w 0 0 lv pc [v] := by
  rintro H locs ls ⟨hP, rfl, rfl⟩ hL
  subst hv
  exact W.aret B.1 B.2.1 hr (Or.inl ⟨nm, rfl⟩) (by cases r with | none => exact Or.inl rfl | some a => exact Or.inr ⟨a, rfl⟩) (fun t ht hW => ⟨r, rfl, hp, ht⟩) (fun q h => by cases h) hdg B.2.2.2.2.2.2.2.2
theorem z_mret {post : Int32 → va_W → Prop} {x : Int32} {ty : FieldType} (B : zB X own cc nL Ts rm D tys (zI1 D A (zs X))) (hAe : A = va_A w0 (zs X).heap.size) (hr : (zmeth X).sig.returnType = some ty) (hdg : decode cc pc = .ok (.ireturn, 1)) (hn : narrow ty (.int x) = .int x) (h1 : k ≤ mc) (h2 : n ≤ ms) (hp : post x w) : zJ X nL (zI1 D A (zs X)) (zQe X (va_Qi post (zEnd D tys w0 (zs X).heap.size) A) mc ms A) w k n lv pc [.int x] := by
  rintro H locs ls ⟨hP, hD, hS, hA⟩ hL
  refine W.widen h1 h2 ?_
  exact W.zret B.1 B.2.1 hr hn (fun t ht hW => ⟨⟨x, w, rfl, hp, by rw [ht]; exact hP, va_K.moved hW.alike B.2.2.2.2.2.1, hAe ▸ hD⟩, hS.F ht⟩) hS.2.2 hdg B.2.2.2.2.2.2.2.2
theorem z_vret {post : va_W → Prop} (B : zB X own cc nL Ts rm D tys (zI1 D A (zs X))) (hAe : A = va_A w0 (zs X).heap.size) (hr : (zmeth X).sig.returnType = none) (hdg : decode cc pc = .ok (.return_, 1)) (h1 : k ≤ mc) (h2 : n ≤ ms) (hp : post w) : zJ X nL (zI1 D A (zs X)) (zQe X (va_Qv post (zEnd D tys w0 (zs X).heap.size) A) mc ms A) w k n lv pc [] := by
  rintro H locs ls ⟨hP, hD, hS, hA⟩ hL
  refine W.widen h1 h2 ?_
  exact W.vret B.1 B.2.1 hr (fun t ht hW => ⟨⟨w, rfl, hp, by rw [ht]; exact hP, va_K.moved hW.alike B.2.2.2.2.2.1, hAe ▸ hD⟩, hS.F ht⟩) hS.2.2 hdg B.2.2.2.2.2.2.2.2
end ZE
section ZK
variable {X : zX} {l : Launch} {own : String} {cc : ByteArray} {nL : Nat} {Ts : List Cond} {rm : Room} {D : va_G} {tys : List (ClassId × FieldType)} {I : zII} {Q : State → Prop} {w wc : va_W} {k n : Nat} {lv : List (Nat × Value)} {pc : Nat} {st st0 : List Value} {A : Nat → Prop}
variable {y : MethodName} {ws ws' : List Cond} {rm' : Room} {bytes : ByteArray} {maxL index : Nat} {ret : Option FieldType} {C : String} {T : u_T} {N ci b : Nat} {fs : List Value} {As : List Value}
/-- room for a call -/
abbrev zRm (rm rm' : Room) (maxL : Nat) : Prop := rm'.frames + 1 ≤ rm.frames ∧ 8 + (maxL + 11) + rm'.locals ≤ rm.locals
abbrev zNm (y : MethodName) (C : String) (na : Nat) : Prop := y.cls = C ∧ y.cls ≠ "java/lang/invoke/MethodHandle" ∧ y.cls ≠ "java/lang/invoke/VarHandle" ∧ (parseMethodDescriptor y.desc).map (fun d => d.parameters.length) = some na
theorem z_sub {w wc : va_W} {D : va_G} {H : Heap} (hP : va_P D vwCl w H) (h : ∀ (k : Nat) (q : Nat × va_E), wc[k]? = some q → q ∈ w) : va_P D vwCl wc H := by
  intro k q hk
  obtain ⟨i, hi⟩ := List.getElem?_of_mem (h k q hk)
  exact hP i q hi
theorem z_blind {D : va_G} {tys : List (ClassId × FieldType)} {w : va_W} {As : List Value} : FrameBlind (va_Pc As (fun U => va_P D vwCl w U.heap ∧ va_K D vwCl tys U)) := fun a U g mk q => ⟨q.1, q.2.1, va_K.moved (u := U) (U := U.calling g mk a) (Vm.Alike.refl U.vm) q.2.2⟩
theorem z_blind2 {D : va_G} {tys : List (ClassId × FieldType)} {w : va_W} {As : List Value} {sz : Nat} : FrameBlind (va_Pc As (zPre D tys w sz)) := fun a U g mk q => ⟨q.1, zPre_moved q.2⟩
/-- a call of a reader, virtual; the callee's world wc is the caller's own or a part of it -/
theorem z_callP {post : Int32 → Prop} (B : zB X own cc nL Ts rm D tys I) (hl : zl X = l) (hM : zPure l y ws rm' D tys wc (.ref b :: As) post) (hG : GoodIn Ts (wsV own index C y ws)) (hw : ws = Cond.code y bytes maxL ret :: ws') (hc0 : rm'.cells = 0 ∧ rm'.slots = 0) (hd : zNm y C As.length) (hR : zRm rm rm' maxL)
    (hsub : ∀ H, va_P D vwCl w H → va_P D vwCl wc H) (q : Nat) (hr : wc[q]? = some (b, .inr (ci, fs))) (hC : vwCl[ci]? = some (C, T, N)) (hst : st0 = As.reverse ++ .ref b :: st) (hcat : (st.map fun v => v.category).sum ≤ 8) (hdg : decode cc pc = .ok (.invokevirtual index, 3))
    (hk : k ≤ rm.cells) (hn : n ≤ rm.slots) (kk : ∀ r : Int32, post r → zJ X nL I Q w k n lv (pc + 3) (.int r :: st)) : zJ X nL I Q w k n lv pc st0 := by
  intro H locs ls hI hL
  subst hl
  have hP := B.2.2.2.2.2.2.1 w H locs hI
  exact vp_callSi (W.runV ⟨B.1, B.2.1, B.2.2.1, B.2.2.2.1, B.2.2.2.2.1⟩ hM (cwV As.length B.2.2.2.2.1 hG hw hc0.1 hc0.2 hd (B.2.2.2.2.2.2.2.1 ▸ hR))
    ⟨z_blind, va_recv B.2.2.2.2.2.1 (hsub H hP) hC hr, fun U hU hW => ⟨rfl, by rw [hU]; exact hsub H hP, va_K.moved hW.alike B.2.2.2.2.2.1⟩⟩ rfl rfl hL.1 hst (lv_room hcat) hdg ⟨B.2.2.2.2.2.2.2.1 ▸ hk, B.2.2.2.2.2.2.2.1 ▸ hn⟩) (fun r hr => kk r hr H locs ls hI hL)
theorem z_callPQ {post : Option Nat → Prop} (B : zB X own cc nL Ts rm D tys I) (hl : zl X = l) (hM : zPureQ l y ws rm' D tys wc (.ref b :: As) post) (hG : GoodIn Ts (wsV own index C y ws)) (hw : ws = Cond.code y bytes maxL ret :: ws') (hc0 : rm'.cells = 0 ∧ rm'.slots = 0) (hd : zNm y C As.length) (hR : zRm rm rm' maxL)
    (hsub : ∀ H, va_P D vwCl w H → va_P D vwCl wc H) (q : Nat) (hr : wc[q]? = some (b, .inr (ci, fs))) (hC : vwCl[ci]? = some (C, T, N)) (hst : st0 = As.reverse ++ .ref b :: st) (hcat : (st.map fun v => v.category).sum ≤ 8) (hdg : decode cc pc = .ok (.invokevirtual index, 3))
    (hk : k ≤ rm.cells) (hn : n ≤ rm.slots) (kk : ∀ r : Option Nat, post r → zJ X nL I Q w k n lv (pc + 3) (va_rf r :: st)) : zJ X nL I Q w k n lv pc st0 := by
  intro H locs ls hI hL
  subst hl
  have hP := B.2.2.2.2.2.2.1 w H locs hI
  exact va_csq (W.runV ⟨B.1, B.2.1, B.2.2.1, B.2.2.2.1, B.2.2.2.2.1⟩ hM (cwV As.length B.2.2.2.2.1 hG hw hc0.1 hc0.2 hd (B.2.2.2.2.2.2.2.1 ▸ hR))
    ⟨z_blind, va_recv B.2.2.2.2.2.1 (hsub H hP) hC hr, fun U hU hW => ⟨rfl, by rw [hU]; exact hsub H hP, va_K.moved hW.alike B.2.2.2.2.2.1⟩⟩ rfl rfl hL.1 hst (lv_room hcat) hdg ⟨B.2.2.2.2.2.2.2.1 ▸ hk, B.2.2.2.2.2.2.2.1 ▸ hn⟩) (fun r hr => kk r hr H locs ls hI hL)
/-- a call of a static reader -/
theorem z_callS {post : Int32 → Prop} (B : zB X own cc nL Ts rm D tys I) (hl : zl X = l) (hM : zPure l y ws rm' D tys wc As post) (hG : GoodIn Ts (wsS own index y ws)) (hw : ws = Cond.code y bytes maxL ret :: ws') (hc0 : rm'.cells = 0 ∧ rm'.slots = 0) (hd : zNm y own As.length) (hR : zRm rm rm' maxL)
    (hsub : ∀ H, va_P D vwCl w H → va_P D vwCl wc H) (hst : st0 = As.reverse ++ st) (hcat : (st.map fun v => v.category).sum ≤ 8) (hdg : decode cc pc = .ok (.invokestatic index, 3))
    (hk : k ≤ rm.cells) (hn : n ≤ rm.slots) (kk : ∀ r : Int32, post r → zJ X nL I Q w k n lv (pc + 3) (.int r :: st)) : zJ X nL I Q w k n lv pc st0 := by
  intro H locs ls hI hL
  subst hl
  have hP := B.2.2.2.2.2.2.1 w H locs hI
  exact vp_callSi (W.runS ⟨B.1, B.2.1, B.2.2.1, B.2.2.2.1, B.2.2.2.2.1⟩ hM (cwS As.length B.2.2.2.2.1 hG hw hc0.1 hc0.2 hd (B.2.2.2.2.2.2.2.1 ▸ hR))
    ⟨z_blind, fun U hU hW => ⟨rfl, by rw [hU]; exact hsub H hP, va_K.moved hW.alike B.2.2.2.2.2.1⟩⟩ rfl rfl hL.1 hst (lv_room hcat) hdg ⟨B.2.2.2.2.2.2.2.1 ▸ hk, B.2.2.2.2.2.2.2.1 ▸ hn⟩) (fun r hr => kk r hr H locs ls hI hL)
/-- which cells a callee on this world may write: the caller's -/
theorem z_freeA {A0 : Nat → Prop} {w : va_W} {H0 H : Heap} {locs : List Loc} (hD : va_D A0 w) (hS : va_S A0 H0 H locs) (hA : ∀ q, H0.size ≤ q → A0 q) : ∀ q, va_A w H.size q → A0 q := by
  rintro q (⟨k, e, h⟩ | h)
  · exact hD.2 k _ h
  · exact hA q (Nat.le_trans hS.1 h)
/-- a call of a writer on the whole world -/
theorem z_callM {post : Int32 → va_W → Prop} {mc ms k' n' : Nat} (B : zB X own cc nL Ts rm D tys (zI1 D A (zs X))) (hl : zl X = l) (hM : zMutI l y ws rm' D tys w (.ref b :: As) post mc ms) (hG : GoodIn Ts (wsV own index C y ws)) (hw : ws = Cond.code y bytes maxL ret :: ws') (hc0 : rm'.cells = mc ∧ rm'.slots = ms) (hd : zNm y C As.length) (hR : zRm rm rm' maxL)
    (q : Nat) (hr : w[q]? = some (b, .inr (ci, fs))) (hC : vwCl[ci]? = some (C, T, N)) (hst : st0 = As.reverse ++ .ref b :: st) (hcat : (st.map fun v => v.category).sum ≤ 8) (hdg : decode cc pc = .ok (.invokevirtual index, 3))
    (hk : k + mc = k') (hn : n + ms = n') (hk' : k' ≤ rm.cells) (hn' : n' ≤ rm.slots) (kk : ∀ (r : Int32) (w' : va_W), post r w' → zJ X nL (zI1 D A (zs X)) Q w' k' n' lv (pc + 3) (.int r :: st)) : zJ X nL (zI1 D A (zs X)) Q w k n lv pc st0 := by
  rintro H locs ls ⟨hP, hD, hS, hA⟩ hL
  subst hl; subst hk; subst hn
  have hF := z_freeA hD hS hA
  refine va_calli (va_runV ⟨B.1, B.2.1, B.2.2.1, B.2.2.2.1, B.2.2.2.2.1⟩ (hM H.size) (cwV As.length B.2.2.2.2.1 hG hw hc0.1 hc0.2 hd (B.2.2.2.2.2.2.2.1 ▸ hR))
    ⟨z_blind2, va_recv B.2.2.2.2.2.1 hP hC hr, fun U hU hW => ⟨rfl, by rw [hU], by rw [hU]; exact hP, va_K.moved hW.alike B.2.2.2.2.2.1, hD.weaken (fun _ _ _ _ => trivial)⟩⟩ rfl rfl hL.1 hst (lv_room hcat) hdg ⟨B.2.2.2.2.2.2.2.1 ▸ hk', B.2.2.2.2.2.2.2.1 ▸ hn'⟩) hS (fun q _ h => hF q h) hF ?_
  intro r u t H1 locs1 ht hvm hpost hB hz hk1 hS1
  obtain ⟨hP1, hK1, hD1⟩ := hB
  rw [ht] at hP1
  exact kk r u hpost H1 locs1 ls ⟨hP1, hD1.weaken (fun _ q _ h => hF q.1 h), hS1, hA⟩ hL
theorem z_callMV {post : va_W → Prop} {mc ms k' n' : Nat} (B : zB X own cc nL Ts rm D tys (zI1 D A (zs X))) (hl : zl X = l) (hM : zMutV l y ws rm' D tys w (.ref b :: As) post mc ms) (hG : GoodIn Ts (wsV own index C y ws)) (hw : ws = Cond.code y bytes maxL ret :: ws') (hc0 : rm'.cells = mc ∧ rm'.slots = ms) (hd : zNm y C As.length) (hR : zRm rm rm' maxL)
    (q : Nat) (hr : w[q]? = some (b, .inr (ci, fs))) (hC : vwCl[ci]? = some (C, T, N)) (hst : st0 = As.reverse ++ .ref b :: st) (hcat : (st.map fun v => v.category).sum ≤ 8) (hdg : decode cc pc = .ok (.invokevirtual index, 3))
    (hk : k + mc = k') (hn : n + ms = n') (hk' : k' ≤ rm.cells) (hn' : n' ≤ rm.slots) (kk : ∀ (w' : va_W), post w' → zJ X nL (zI1 D A (zs X)) Q w' k' n' lv (pc + 3) st) : zJ X nL (zI1 D A (zs X)) Q w k n lv pc st0 := by
  rintro H locs ls ⟨hP, hD, hS, hA⟩ hL
  subst hl; subst hk; subst hn
  have hF := z_freeA hD hS hA
  refine va_callv (va_runV ⟨B.1, B.2.1, B.2.2.1, B.2.2.2.1, B.2.2.2.2.1⟩ (hM H.size) (cwV As.length B.2.2.2.2.1 hG hw hc0.1 hc0.2 hd (B.2.2.2.2.2.2.2.1 ▸ hR))
    ⟨z_blind2, va_recv B.2.2.2.2.2.1 hP hC hr, fun U hU hW => ⟨rfl, by rw [hU], by rw [hU]; exact hP, va_K.moved hW.alike B.2.2.2.2.2.1, hD.weaken (fun _ _ _ _ => trivial)⟩⟩ rfl rfl hL.1 hst (lv_room hcat) hdg ⟨B.2.2.2.2.2.2.2.1 ▸ hk', B.2.2.2.2.2.2.2.1 ▸ hn'⟩) hS (fun q _ h => hF q h) hF ?_
  intro u t H1 locs1 ht hvm hpost hB hz hk1 hS1
  obtain ⟨hP1, hK1, hD1⟩ := hB
  rw [ht] at hP1
  exact kk u hpost H1 locs1 ls ⟨hP1, hD1.weaken (fun _ q _ h => hF q.1 h), hS1, hA⟩ hL
end ZK
end
