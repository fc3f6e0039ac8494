/-! the law's words by piece and place -/
def wsL_ck : List (List Cond) := [wsL_law0_r1, wsL_law0_r2, wsL_law0_r3, wsL_law0_r4, wsL_law0_r5, wsL_law0_r6, wsL_law0_r7, wsL_law0_r8, wsL_law0_r9, wsL_law0_r10, wsL_law0_r11, wsL_law0_r12, wsL_law0_r13, wsL_law0_r14, wsL_law0_r15, wsL_law0_r16, wsL_law0_r17, wsL_law0_r18, wsL_law0_r19, wsL_law0_r20, wsL_law0_r21, wsL_law0_r22, wsL_law0_r23, wsL_law0_r24, wsL_law0_r25, wsL_law0_r26, wsL_law0_r27, wsL_law0_r28, wsL_law0_r29, wsL_law0_r30, wsL_law0_r31, wsL_law0_r32, wsL_law0_r33, wsL_law0_r34, wsL_law0_r35, wsL_law0_r36, wsL_law0_r37, wsL_law0_r38, wsL_law0_r39, wsL_law0_r40, wsL_law0_r41, wsX60, wsX70, wsX30, wsX00, wsX50, wsX20, wsX40, wsX10]
set_option maxRecDepth 20000 in
theorem wsL_law_eq : wsL_law = wsL_ck.flatten ++ ((vx_atS RX6 55 "java/lang/IllegalArgumentException" ["java/lang/RuntimeException", "java/lang/Exception"]).filter goodWord ++ ((vx_atS RX6 66 "java/lang/IllegalStateException" ["java/lang/RuntimeException", "java/lang/Exception"]).filter goodWord ++ ((vx_atS RX6 308 "java/lang/IndexOutOfBoundsException" ["java/lang/RuntimeException", "java/lang/Exception"]).filter goodWord))) := by
  simp only [wsL_law, wsL_law0, wsL_ck, List.flatten_cons, List.flatten_nil, List.append_assoc, List.append_nil, List.nil_append]
theorem goodIn_ck {ws : List Cond} (ps : List (Nat × Nat)) (hp : ws = ps.filterMap (fun q => (wsL_ck[q.1]?).bind (fun l => l[q.2]?))) (h : ws.all goodWord = true) : GoodIn wsL_law ws := by
  intro w hw
  have h1 := List.all_eq_true.mp h w hw
  rw [hp] at hw
  obtain ⟨q, -, hq⟩ := List.mem_filterMap.mp hw
  obtain ⟨l, hl, hi⟩ := Option.bind_eq_some_iff.mp hq
  refine ⟨?_, good_of_word h1⟩
  rw [wsL_law_eq]
  exact List.mem_append_left _ (List.mem_flatten.mpr ⟨l, List.mem_of_getElem? hl, List.mem_of_getElem? hi⟩)
theorem afs (l : List Cond) : (l.filter goodWord).all goodWord = true := List.all_eq_true.mpr (fun w h => (List.mem_filter.mp h).2)
