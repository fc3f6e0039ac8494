/-! the law's wrappers, the rest -/
set_option maxHeartbeats 4000000 in
set_option maxRecDepth 100000 in
theorem wr_isTrue (l : Launch) (D : va_G) (g : zG) (o b : Nat) (f : Nat → Int64) (wc : va_W) (fs : List Value) (hr0 : wc[0]? = some (b, .inr (6, fs))) (x : Int32) (P : Int32 → va_W → Prop) (xp : String → va_W → Prop) (hE : ∀ E w, xp E w → E = "java/lang/IndexOutOfBoundsException") (hB : ∀ r w, P r w → r = 0 ∨ r = 1) (hM : zThrL l yX6_isTrue wsX6_isTrue { frames := 7, cells := 1, slots := 6, locals := 103 } D (zT g) wc [.ref b, .int x] P xp 1 6) : zWrp l yL_isTrue wsL_isTrue { frames := 8, cells := 1, slots := 6, locals := 124 } D (zT g) ((o, .inl (g.2.2.2, 1, .inr (.inl f))) :: wc) [.ref b, .int x, .ref o] (wPost g o f P xp ["java/lang/IndexOutOfBoundsException"]) 1 6 := by
  refine zWrp_of (cc := cL_isTrue) (maxL := 4) (ret := (some .int)) (own := RL) (hh := [(0, 16, 19, 13)]) [(0, .ref b), (1, .int x), (2, .ref o)] (by decide) rfl rfl rfl (Nat.le_of_ble_eq_true rfl) ?_
  intro X A hAe hl B hr htab hLF
  refine z_aload_n B 2 dL_isTrue_0 rfl rfl ?_
  refine z_iconst (v := nI 0) B dL_isTrue_1 (by decide) ?_
  refine z_aload_n B 0 dL_isTrue_2 rfl rfl ?_
  refine z_iload_n B 1 dL_isTrue_3 rfl rfl ?_
  refine z_w (w' := [(o, .inl (g.2.2.2, 1, .inr (.inl f)))] ++ wc) rfl ?_
  refine z_callC (As := [.int x]) (st := [.int (nI 0), .ref o]) (C := RX6) (T := TX6) (N := 6) (ci := 6) (l := l) B hLF hl hM gL_isTrue_X6_isTrue rfl ⟨rfl, rfl⟩ nm_X6_isTrue ⟨by decide, by decide⟩ 0 hr0 rfl rfl (Nat.le_of_ble_eq_true rfl) dL_isTrue_4 rfl rfl (by decide) (by decide) (fun E w1 hx => ?_) (fun r w1 hp => ?_)
  · rcases hE E w1 hx with rfl
    · refine z_catch B hLF htab (by decide) [] ⟨0, 16, 19, 13⟩ [] rfl (fun _ h => absurd h List.not_mem_nil) (by decide) (by decide) (List.mem_of_getElem? (i := 1) rfl) (fun q => ?_)
      refine z_astore_n (lv1 := [(3, .ref q), (0, .ref b), (1, .int x), (2, .ref o)]) B dL_isTrue_19 rfl (by decide) rfl ?_
      refine z_iconst (v := nI 1) B dL_isTrue_20 (by decide) ?_
      exact z_mret B hAe hr dL_isTrue_21 rfl (by decide) (by decide) (Or.inr ⟨_, w1, 0, rfl, rfl, rfl, hx⟩)
  · rcases hB r w1 hp with rfl | rfl
    · refine z_if_eq B 14 dL_isTrue_7 (by decide) (fun _ => ?_) (fun h => absurd rfl h)
      refine z_lconst (v := 0) B dL_isTrue_14 (by decide) ?_
      refine z_last (i := 0) (w' := (o, .inl (g.2.2.2, 1, .inr (.inl (vp_updL f 0 (0 : Int32).toInt64)))) :: w1) B 0 3 rfl rfl (by decide) (by decide) dL_isTrue_15 (by first | rfl | (rw [show (0 : Int32).toInt64 = 0 by decide]; rfl)) ?_
      refine z_goto B 22 dL_isTrue_16 (by decide) ?_
      refine z_iconst (v := nI 0) B dL_isTrue_22 (by decide) ?_
      exact z_mret B hAe hr dL_isTrue_23 rfl (by decide) (by decide) (Or.inl ⟨rfl, 0, w1, rfl, hp⟩)
    · refine z_if_eq B 14 dL_isTrue_7 (by decide) (fun h => absurd h (by decide)) (fun _ => ?_)
      refine z_lconst (v := 1) B dL_isTrue_10 (by decide) ?_
      refine z_goto B 15 dL_isTrue_11 (by decide) ?_
      refine z_last (i := 0) (w' := (o, .inl (g.2.2.2, 1, .inr (.inl (vp_updL f 0 (1 : Int32).toInt64)))) :: w1) B 0 3 rfl rfl (by decide) (by decide) dL_isTrue_15 (by first | rfl | (rw [show (1 : Int32).toInt64 = 1 by decide]; rfl)) ?_
      refine z_goto B 22 dL_isTrue_16 (by decide) ?_
      refine z_iconst (v := nI 0) B dL_isTrue_22 (by decide) ?_
      exact z_mret B hAe hr dL_isTrue_23 rfl (by decide) (by decide) (Or.inl ⟨rfl, 1, w1, rfl, hp⟩)
set_option maxHeartbeats 4000000 in
set_option maxRecDepth 100000 in
theorem wr_text (l : Launch) (D : va_G) (g : zG) (o b : Nat) (f : Nat → Int64) (wc : va_W) (fs : List Value) (hr0 : wc[0]? = some (b, .inr (6, fs))) (x : Int32) (P : Int32 → va_W → Prop) (xp : String → va_W → Prop) (hE : ∀ E w, xp E w → E = "java/lang/IndexOutOfBoundsException") (hM : zThrL l yX6_text wsX6_text { frames := 7, cells := 1, slots := 6, locals := 103 } D (zT g) wc [.ref b, .int x] P xp 1 6) : zWrp l yL_text wsL_text { frames := 8, cells := 1, slots := 6, locals := 124 } D (zT g) ((o, .inl (g.2.2.2, 1, .inr (.inl f))) :: wc) [.ref b, .int x, .ref o] (wPost g o f P xp ["java/lang/IndexOutOfBoundsException"]) 1 6 := by
  refine zWrp_of (cc := cL_text) (maxL := 4) (ret := (some .int)) (own := RL) (hh := [(0, 9, 12, 13)]) [(0, .ref b), (1, .int x), (2, .ref o)] (by decide) rfl rfl rfl (Nat.le_of_ble_eq_true rfl) ?_
  intro X A hAe hl B hr htab hLF
  refine z_aload_n B 2 dL_text_0 rfl rfl ?_
  refine z_iconst (v := nI 0) B dL_text_1 (by decide) ?_
  refine z_aload_n B 0 dL_text_2 rfl rfl ?_
  refine z_iload_n B 1 dL_text_3 rfl rfl ?_
  refine z_w (w' := [(o, .inl (g.2.2.2, 1, .inr (.inl f)))] ++ wc) rfl ?_
  refine z_callC (As := [.int x]) (st := [.int (nI 0), .ref o]) (C := RX6) (T := TX6) (N := 6) (ci := 6) (l := l) B hLF hl hM gL_text_X6_text rfl ⟨rfl, rfl⟩ nm_X6_text ⟨by decide, by decide⟩ 0 hr0 rfl rfl (Nat.le_of_ble_eq_true rfl) dL_text_4 rfl rfl (by decide) (by decide) (fun E w1 hx => ?_) (fun r w1 hp => ?_)
  · rcases hE E w1 hx with rfl
    · refine z_catch B hLF htab (by decide) [] ⟨0, 9, 12, 13⟩ [] rfl (fun _ h => absurd h List.not_mem_nil) (by decide) (by decide) (List.mem_of_getElem? (i := 1) rfl) (fun q => ?_)
      refine z_astore_n (lv1 := [(3, .ref q), (0, .ref b), (1, .int x), (2, .ref o)]) B dL_text_12 rfl (by decide) rfl ?_
      refine z_iconst (v := nI 1) B dL_text_13 (by decide) ?_
      exact z_mret B hAe hr dL_text_14 rfl (by decide) (by decide) (Or.inr ⟨_, w1, 0, rfl, rfl, rfl, hx⟩)
  · refine z_i2l B dL_text_7 ?_
    refine z_last (i := 0) (w' := (o, .inl (g.2.2.2, 1, .inr (.inl (vp_updL f 0 r.toInt64)))) :: w1) B 0 3 rfl rfl (by decide) (by decide) dL_text_8 rfl ?_
    refine z_goto B 15 dL_text_9 (by decide) ?_
    refine z_iconst (v := nI 0) B dL_text_15 (by decide) ?_
    exact z_mret B hAe hr dL_text_16 rfl (by decide) (by decide) (Or.inl ⟨rfl, r, w1, rfl, hp⟩)
set_option maxHeartbeats 4000000 in
set_option maxRecDepth 100000 in
theorem wr_mark (l : Launch) (D : va_G) (g : zG) (o b : Nat) (f : Nat → Int64) (wc : va_W) (fs : List Value) (hr0 : wc[0]? = some (b, .inr (6, fs))) (x : Int32) (P : Int32 → va_W → Prop) (xp : String → va_W → Prop) (hE : ∀ E w, xp E w → E = "java/lang/IndexOutOfBoundsException") (hM : zThrL l yX6_mark wsX6_mark { frames := 7, cells := 1, slots := 6, locals := 103 } D (zT g) wc [.ref b, .int x] P xp 1 6) : zWrp l yL_mark wsL_mark { frames := 8, cells := 1, slots := 6, locals := 124 } D (zT g) ((o, .inl (g.2.2.2, 1, .inr (.inl f))) :: wc) [.ref b, .int x, .ref o] (wPost g o f P xp ["java/lang/IndexOutOfBoundsException"]) 1 6 := by
  refine zWrp_of (cc := cL_mark) (maxL := 4) (ret := (some .int)) (own := RL) (hh := [(0, 9, 12, 13)]) [(0, .ref b), (1, .int x), (2, .ref o)] (by decide) rfl rfl rfl (Nat.le_of_ble_eq_true rfl) ?_
  intro X A hAe hl B hr htab hLF
  refine z_aload_n B 2 dL_mark_0 rfl rfl ?_
  refine z_iconst (v := nI 0) B dL_mark_1 (by decide) ?_
  refine z_aload_n B 0 dL_mark_2 rfl rfl ?_
  refine z_iload_n B 1 dL_mark_3 rfl rfl ?_
  refine z_w (w' := [(o, .inl (g.2.2.2, 1, .inr (.inl f)))] ++ wc) rfl ?_
  refine z_callC (As := [.int x]) (st := [.int (nI 0), .ref o]) (C := RX6) (T := TX6) (N := 6) (ci := 6) (l := l) B hLF hl hM gL_mark_X6_mark rfl ⟨rfl, rfl⟩ nm_X6_mark ⟨by decide, by decide⟩ 0 hr0 rfl rfl (Nat.le_of_ble_eq_true rfl) dL_mark_4 rfl rfl (by decide) (by decide) (fun E w1 hx => ?_) (fun r w1 hp => ?_)
  · rcases hE E w1 hx with rfl
    · refine z_catch B hLF htab (by decide) [] ⟨0, 9, 12, 13⟩ [] rfl (fun _ h => absurd h List.not_mem_nil) (by decide) (by decide) (List.mem_of_getElem? (i := 1) rfl) (fun q => ?_)
      refine z_astore_n (lv1 := [(3, .ref q), (0, .ref b), (1, .int x), (2, .ref o)]) B dL_mark_12 rfl (by decide) rfl ?_
      refine z_iconst (v := nI 1) B dL_mark_13 (by decide) ?_
      exact z_mret B hAe hr dL_mark_14 rfl (by decide) (by decide) (Or.inr ⟨_, w1, 0, rfl, rfl, rfl, hx⟩)
  · refine z_i2l B dL_mark_7 ?_
    refine z_last (i := 0) (w' := (o, .inl (g.2.2.2, 1, .inr (.inl (vp_updL f 0 r.toInt64)))) :: w1) B 0 3 rfl rfl (by decide) (by decide) dL_mark_8 rfl ?_
    refine z_goto B 15 dL_mark_9 (by decide) ?_
    refine z_iconst (v := nI 0) B dL_mark_15 (by decide) ?_
    exact z_mret B hAe hr dL_mark_16 rfl (by decide) (by decide) (Or.inl ⟨rfl, r, w1, rfl, hp⟩)
set_option maxHeartbeats 4000000 in
set_option maxRecDepth 100000 in
theorem wr_reversal (l : Launch) (D : va_G) (g : zG) (o b : Nat) (f : Nat → Int64) (wc : va_W) (fs : List Value) (hr0 : wc[0]? = some (b, .inr (6, fs))) (x : Int32) (P : Int32 → va_W → Prop) (xp : String → va_W → Prop) (hE : ∀ E w, xp E w → E = "java/lang/IndexOutOfBoundsException") (hM : zThrL l yX6_reversal wsX6_reversal { frames := 7, cells := 1, slots := 6, locals := 103 } D (zT g) wc [.ref b, .int x] P xp 1 6) : zWrp l yL_reversal wsL_reversal { frames := 8, cells := 1, slots := 6, locals := 124 } D (zT g) ((o, .inl (g.2.2.2, 1, .inr (.inl f))) :: wc) [.ref b, .int x, .ref o] (wPost g o f P xp ["java/lang/IndexOutOfBoundsException"]) 1 6 := by
  refine zWrp_of (cc := cL_reversal) (maxL := 4) (ret := (some .int)) (own := RL) (hh := [(0, 9, 12, 13)]) [(0, .ref b), (1, .int x), (2, .ref o)] (by decide) rfl rfl rfl (Nat.le_of_ble_eq_true rfl) ?_
  intro X A hAe hl B hr htab hLF
  refine z_aload_n B 2 dL_reversal_0 rfl rfl ?_
  refine z_iconst (v := nI 0) B dL_reversal_1 (by decide) ?_
  refine z_aload_n B 0 dL_reversal_2 rfl rfl ?_
  refine z_iload_n B 1 dL_reversal_3 rfl rfl ?_
  refine z_w (w' := [(o, .inl (g.2.2.2, 1, .inr (.inl f)))] ++ wc) rfl ?_
  refine z_callC (As := [.int x]) (st := [.int (nI 0), .ref o]) (C := RX6) (T := TX6) (N := 6) (ci := 6) (l := l) B hLF hl hM gL_reversal_X6_reversal rfl ⟨rfl, rfl⟩ nm_X6_reversal ⟨by decide, by decide⟩ 0 hr0 rfl rfl (Nat.le_of_ble_eq_true rfl) dL_reversal_4 rfl rfl (by decide) (by decide) (fun E w1 hx => ?_) (fun r w1 hp => ?_)
  · rcases hE E w1 hx with rfl
    · refine z_catch B hLF htab (by decide) [] ⟨0, 9, 12, 13⟩ [] rfl (fun _ h => absurd h List.not_mem_nil) (by decide) (by decide) (List.mem_of_getElem? (i := 1) rfl) (fun q => ?_)
      refine z_astore_n (lv1 := [(3, .ref q), (0, .ref b), (1, .int x), (2, .ref o)]) B dL_reversal_12 rfl (by decide) rfl ?_
      refine z_iconst (v := nI 1) B dL_reversal_13 (by decide) ?_
      exact z_mret B hAe hr dL_reversal_14 rfl (by decide) (by decide) (Or.inr ⟨_, w1, 0, rfl, rfl, rfl, hx⟩)
  · refine z_i2l B dL_reversal_7 ?_
    refine z_last (i := 0) (w' := (o, .inl (g.2.2.2, 1, .inr (.inl (vp_updL f 0 r.toInt64)))) :: w1) B 0 3 rfl rfl (by decide) (by decide) dL_reversal_8 rfl ?_
    refine z_goto B 15 dL_reversal_9 (by decide) ?_
    refine z_iconst (v := nI 0) B dL_reversal_15 (by decide) ?_
    exact z_mret B hAe hr dL_reversal_16 rfl (by decide) (by decide) (Or.inl ⟨rfl, r, w1, rfl, hp⟩)
set_option maxHeartbeats 4000000 in
set_option maxRecDepth 100000 in
theorem wr_proves (l : Launch) (D : va_G) (g : zG) (o b : Nat) (f : Nat → Int64) (wc : va_W) (fs : List Value) (hr0 : wc[0]? = some (b, .inr (6, fs))) (x : Int32) (y : Int32) (P : Int32 → va_W → Prop) (xp : String → va_W → Prop) (hE : ∀ E w, xp E w → E = "java/lang/IndexOutOfBoundsException" ∨ E = "java/lang/IllegalArgumentException") (hB : ∀ r w, P r w → r = 0 ∨ r = 1) (hM : zThrL l yX6_proves wsX6_proves { frames := 7, cells := 2, slots := 12, locals := 103 } D (zT g) wc [.ref b, .int x, .int y] P xp 2 12) : zWrp l yL_proves wsL_proves { frames := 8, cells := 2, slots := 12, locals := 125 } D (zT g) ((o, .inl (g.2.2.2, 1, .inr (.inl f))) :: wc) [.ref b, .int x, .int y, .ref o] (wPost g o f P xp ["java/lang/IndexOutOfBoundsException", "java/lang/IllegalArgumentException"]) 2 12 := by
  refine zWrp_of (cc := cL_proves) (maxL := 5) (ret := (some .int)) (own := RL) (hh := [(0, 17, 20, 13), (0, 17, 24, 15)]) [(0, .ref b), (1, .int x), (2, .int y), (3, .ref o)] (by decide) rfl rfl rfl (Nat.le_of_ble_eq_true rfl) ?_
  intro X A hAe hl B hr htab hLF
  refine z_aload_n B 3 dL_proves_0 rfl rfl ?_
  refine z_iconst (v := nI 0) B dL_proves_1 (by decide) ?_
  refine z_aload_n B 0 dL_proves_2 rfl rfl ?_
  refine z_iload_n B 1 dL_proves_3 rfl rfl ?_
  refine z_iload_n B 2 dL_proves_4 rfl rfl ?_
  refine z_w (w' := [(o, .inl (g.2.2.2, 1, .inr (.inl f)))] ++ wc) rfl ?_
  refine z_callC (As := [.int x, .int y]) (st := [.int (nI 0), .ref o]) (C := RX6) (T := TX6) (N := 6) (ci := 6) (l := l) B hLF hl hM gL_proves_X6_proves rfl ⟨rfl, rfl⟩ nm_X6_proves ⟨by decide, by decide⟩ 0 hr0 rfl rfl (Nat.le_of_ble_eq_true rfl) dL_proves_5 rfl rfl (by decide) (by decide) (fun E w1 hx => ?_) (fun r w1 hp => ?_)
  · rcases hE E w1 hx with rfl | rfl
    · refine z_catch B hLF htab (by decide) [] ⟨0, 17, 20, 13⟩ [⟨0, 17, 24, 15⟩] rfl (fun _ h => absurd h List.not_mem_nil) (by decide) (by decide) (List.mem_of_getElem? (i := 1) rfl) (fun q => ?_)
      refine z_astore (lv1 := [(4, .ref q), (0, .ref b), (1, .int x), (2, .int y), (3, .ref o)]) B dL_proves_20 (by decide) rfl ?_
      refine z_iconst (v := nI 1) B dL_proves_22 (by decide) ?_
      exact z_mret B hAe hr dL_proves_23 rfl (by decide) (by decide) (Or.inr ⟨_, w1, 0, rfl, rfl, rfl, hx⟩)
    · refine z_catch B hLF htab (by decide) [⟨0, 17, 20, 13⟩] ⟨0, 17, 24, 15⟩ [] rfl (List.forall_mem_cons.mpr ⟨⟨by decide, "java/lang/IndexOutOfBoundsException", by decide, List.mem_of_getElem? (i := 1) rfl, by decide⟩, (fun _ h => absurd h List.not_mem_nil)⟩) (by decide) (by decide) (List.mem_of_getElem? (i := 2) rfl) (fun q => ?_)
      refine z_astore (lv1 := [(4, .ref q), (0, .ref b), (1, .int x), (2, .int y), (3, .ref o)]) B dL_proves_24 (by decide) rfl ?_
      refine z_iconst (v := nI 2) B dL_proves_26 (by decide) ?_
      exact z_mret B hAe hr dL_proves_27 rfl (by decide) (by decide) (Or.inr ⟨_, w1, 1, rfl, rfl, rfl, hx⟩)
  · rcases hB r w1 hp with rfl | rfl
    · refine z_if_eq B 15 dL_proves_8 (by decide) (fun _ => ?_) (fun h => absurd rfl h)
      refine z_lconst (v := 0) B dL_proves_15 (by decide) ?_
      refine z_last (i := 0) (w' := (o, .inl (g.2.2.2, 1, .inr (.inl (vp_updL f 0 (0 : Int32).toInt64)))) :: w1) B 0 3 rfl rfl (by decide) (by decide) dL_proves_16 (by first | rfl | (rw [show (0 : Int32).toInt64 = 0 by decide]; rfl)) ?_
      refine z_goto B 28 dL_proves_17 (by decide) ?_
      refine z_iconst (v := nI 0) B dL_proves_28 (by decide) ?_
      exact z_mret B hAe hr dL_proves_29 rfl (by decide) (by decide) (Or.inl ⟨rfl, 0, w1, rfl, hp⟩)
    · refine z_if_eq B 15 dL_proves_8 (by decide) (fun h => absurd h (by decide)) (fun _ => ?_)
      refine z_lconst (v := 1) B dL_proves_11 (by decide) ?_
      refine z_goto B 16 dL_proves_12 (by decide) ?_
      refine z_last (i := 0) (w' := (o, .inl (g.2.2.2, 1, .inr (.inl (vp_updL f 0 (1 : Int32).toInt64)))) :: w1) B 0 3 rfl rfl (by decide) (by decide) dL_proves_16 (by first | rfl | (rw [show (1 : Int32).toInt64 = 1 by decide]; rfl)) ?_
      refine z_goto B 28 dL_proves_17 (by decide) ?_
      refine z_iconst (v := nI 0) B dL_proves_28 (by decide) ?_
      exact z_mret B hAe hr dL_proves_29 rfl (by decide) (by decide) (Or.inl ⟨rfl, 1, w1, rfl, hp⟩)
set_option maxHeartbeats 4000000 in
set_option maxRecDepth 100000 in
theorem wr_proven (l : Launch) (D : va_G) (g : zG) (o b : Nat) (f : Nat → Int64) (wc : va_W) (fs : List Value) (hr0 : wc[0]? = some (b, .inr (6, fs))) (x : Int32) (y : Int32) (P : Int32 → va_W → Prop) (xp : String → va_W → Prop) (hE : ∀ E w, xp E w → E = "java/lang/IndexOutOfBoundsException") (hM : zThrL l yX6_proven wsX6_proven { frames := 7, cells := 2, slots := 12, locals := 103 } D (zT g) wc [.ref b, .int x, .int y] P xp 2 12) : zWrp l yL_proven wsL_proven { frames := 8, cells := 2, slots := 12, locals := 125 } D (zT g) ((o, .inl (g.2.2.2, 1, .inr (.inl f))) :: wc) [.ref b, .int x, .int y, .ref o] (wPost g o f P xp ["java/lang/IndexOutOfBoundsException"]) 2 12 := by
  refine zWrp_of (cc := cL_proven) (maxL := 5) (ret := (some .int)) (own := RL) (hh := [(0, 10, 13, 13)]) [(0, .ref b), (1, .int x), (2, .int y), (3, .ref o)] (by decide) rfl rfl rfl (Nat.le_of_ble_eq_true rfl) ?_
  intro X A hAe hl B hr htab hLF
  refine z_aload_n B 3 dL_proven_0 rfl rfl ?_
  refine z_iconst (v := nI 0) B dL_proven_1 (by decide) ?_
  refine z_aload_n B 0 dL_proven_2 rfl rfl ?_
  refine z_iload_n B 1 dL_proven_3 rfl rfl ?_
  refine z_iload_n B 2 dL_proven_4 rfl rfl ?_
  refine z_w (w' := [(o, .inl (g.2.2.2, 1, .inr (.inl f)))] ++ wc) rfl ?_
  refine z_callC (As := [.int x, .int y]) (st := [.int (nI 0), .ref o]) (C := RX6) (T := TX6) (N := 6) (ci := 6) (l := l) B hLF hl hM gL_proven_X6_proven rfl ⟨rfl, rfl⟩ nm_X6_proven ⟨by decide, by decide⟩ 0 hr0 rfl rfl (Nat.le_of_ble_eq_true rfl) dL_proven_5 rfl rfl (by decide) (by decide) (fun E w1 hx => ?_) (fun r w1 hp => ?_)
  · rcases hE E w1 hx with rfl
    · refine z_catch B hLF htab (by decide) [] ⟨0, 10, 13, 13⟩ [] rfl (fun _ h => absurd h List.not_mem_nil) (by decide) (by decide) (List.mem_of_getElem? (i := 1) rfl) (fun q => ?_)
      refine z_astore (lv1 := [(4, .ref q), (0, .ref b), (1, .int x), (2, .int y), (3, .ref o)]) B dL_proven_13 (by decide) rfl ?_
      refine z_iconst (v := nI 1) B dL_proven_15 (by decide) ?_
      exact z_mret B hAe hr dL_proven_16 rfl (by decide) (by decide) (Or.inr ⟨_, w1, 0, rfl, rfl, rfl, hx⟩)
  · refine z_i2l B dL_proven_8 ?_
    refine z_last (i := 0) (w' := (o, .inl (g.2.2.2, 1, .inr (.inl (vp_updL f 0 r.toInt64)))) :: w1) B 0 3 rfl rfl (by decide) (by decide) dL_proven_9 rfl ?_
    refine z_goto B 17 dL_proven_10 (by decide) ?_
    refine z_iconst (v := nI 0) B dL_proven_17 (by decide) ?_
    exact z_mret B hAe hr dL_proven_18 rfl (by decide) (by decide) (Or.inl ⟨rfl, r, w1, rfl, hp⟩)
set_option maxHeartbeats 4000000 in
set_option maxRecDepth 100000 in
theorem wr_balance (l : Launch) (D : va_G) (g : zG) (o b : Nat) (f : Nat → Int64) (wc : va_W) (fs : List Value) (hr0 : wc[0]? = some (b, .inr (6, fs))) (x : Int32) (y : Int32) (P : Int32 → va_W → Prop) (xp : String → va_W → Prop) (hE : ∀ E w, xp E w → E = "java/lang/IndexOutOfBoundsException" ∨ E = "java/lang/IllegalArgumentException") (hM : zThrL l yX6_balance wsX6_balance { frames := 7, cells := 2, slots := 12, locals := 103 } D (zT g) wc [.ref b, .int x, .int y] P xp 2 12) : zWrp l yL_balance wsL_balance { frames := 8, cells := 2, slots := 12, locals := 128 } D (zT g) ((o, .inl (g.2.2.2, 1, .inr (.inl f))) :: wc) [.ref b, .int x, .int y, .ref o] (wPost g o f P xp ["java/lang/IndexOutOfBoundsException", "java/lang/IllegalArgumentException"]) 2 12 := by
  refine zWrp_of (cc := cL_balance) (maxL := 5) (ret := (some .int)) (own := RL) (hh := [(0, 10, 13, 13), (0, 10, 17, 15)]) [(0, .ref b), (1, .int x), (2, .int y), (3, .ref o)] (by decide) rfl rfl rfl (Nat.le_of_ble_eq_true rfl) ?_
  intro X A hAe hl B hr htab hLF
  refine z_aload_n B 3 dL_balance_0 rfl rfl ?_
  refine z_iconst (v := nI 0) B dL_balance_1 (by decide) ?_
  refine z_aload_n B 0 dL_balance_2 rfl rfl ?_
  refine z_iload_n B 1 dL_balance_3 rfl rfl ?_
  refine z_iload_n B 2 dL_balance_4 rfl rfl ?_
  refine z_w (w' := [(o, .inl (g.2.2.2, 1, .inr (.inl f)))] ++ wc) rfl ?_
  refine z_callC (As := [.int x, .int y]) (st := [.int (nI 0), .ref o]) (C := RX6) (T := TX6) (N := 6) (ci := 6) (l := l) B hLF hl hM gL_balance_X6_balance rfl ⟨rfl, rfl⟩ nm_X6_balance ⟨by decide, by decide⟩ 0 hr0 rfl rfl (Nat.le_of_ble_eq_true rfl) dL_balance_5 rfl rfl (by decide) (by decide) (fun E w1 hx => ?_) (fun r w1 hp => ?_)
  · rcases hE E w1 hx with rfl | rfl
    · refine z_catch B hLF htab (by decide) [] ⟨0, 10, 13, 13⟩ [⟨0, 10, 17, 15⟩] rfl (fun _ h => absurd h List.not_mem_nil) (by decide) (by decide) (List.mem_of_getElem? (i := 1) rfl) (fun q => ?_)
      refine z_astore (lv1 := [(4, .ref q), (0, .ref b), (1, .int x), (2, .int y), (3, .ref o)]) B dL_balance_13 (by decide) rfl ?_
      refine z_iconst (v := nI 1) B dL_balance_15 (by decide) ?_
      exact z_mret B hAe hr dL_balance_16 rfl (by decide) (by decide) (Or.inr ⟨_, w1, 0, rfl, rfl, rfl, hx⟩)
    · refine z_catch B hLF htab (by decide) [⟨0, 10, 13, 13⟩] ⟨0, 10, 17, 15⟩ [] rfl (List.forall_mem_cons.mpr ⟨⟨by decide, "java/lang/IndexOutOfBoundsException", by decide, List.mem_of_getElem? (i := 1) rfl, by decide⟩, (fun _ h => absurd h List.not_mem_nil)⟩) (by decide) (by decide) (List.mem_of_getElem? (i := 2) rfl) (fun q => ?_)
      refine z_astore (lv1 := [(4, .ref q), (0, .ref b), (1, .int x), (2, .int y), (3, .ref o)]) B dL_balance_17 (by decide) rfl ?_
      refine z_iconst (v := nI 2) B dL_balance_19 (by decide) ?_
      exact z_mret B hAe hr dL_balance_20 rfl (by decide) (by decide) (Or.inr ⟨_, w1, 1, rfl, rfl, rfl, hx⟩)
  · refine z_i2l B dL_balance_8 ?_
    refine z_last (i := 0) (w' := (o, .inl (g.2.2.2, 1, .inr (.inl (vp_updL f 0 r.toInt64)))) :: w1) B 0 3 rfl rfl (by decide) (by decide) dL_balance_9 rfl ?_
    refine z_goto B 21 dL_balance_10 (by decide) ?_
    refine z_iconst (v := nI 0) B dL_balance_21 (by decide) ?_
    exact z_mret B hAe hr dL_balance_22 rfl (by decide) (by decide) (Or.inl ⟨rfl, r, w1, rfl, hp⟩)
set_option maxHeartbeats 4000000 in
set_option maxRecDepth 100000 in
theorem wr_balanceByPages (l : Launch) (D : va_G) (g : zG) (o b : Nat) (f : Nat → Int64) (wc : va_W) (fs : List Value) (hr0 : wc[0]? = some (b, .inr (6, fs))) (x : Int32) (y : Int32) (P : Int32 → va_W → Prop) (xp : String → va_W → Prop) (hE : ∀ E w, xp E w → E = "java/lang/IndexOutOfBoundsException" ∨ E = "java/lang/IllegalArgumentException" ∨ E = "java/lang/IllegalStateException") (hM : zThrL l yX6_balanceByPages wsX6_balanceByPages { frames := 7, cells := 3, slots := 18, locals := 103 } D (zT g) wc [.ref b, .int x, .int y] P xp 3 18) : zWrp l yL_balanceByPages wsL_balanceByPages { frames := 8, cells := 3, slots := 18, locals := 129 } D (zT g) ((o, .inl (g.2.2.2, 1, .inr (.inl f))) :: wc) [.ref b, .int x, .int y, .ref o] (wPost g o f P xp ["java/lang/IndexOutOfBoundsException", "java/lang/IllegalArgumentException", "java/lang/IllegalStateException"]) 3 18 := by
  refine zWrp_of (cc := cL_balanceByPages) (maxL := 5) (ret := (some .int)) (own := RL) (hh := [(0, 10, 13, 13), (0, 10, 17, 15), (0, 10, 21, 17)]) [(0, .ref b), (1, .int x), (2, .int y), (3, .ref o)] (by decide) rfl rfl rfl (Nat.le_of_ble_eq_true rfl) ?_
  intro X A hAe hl B hr htab hLF
  refine z_aload_n B 3 dL_balanceByPages_0 rfl rfl ?_
  refine z_iconst (v := nI 0) B dL_balanceByPages_1 (by decide) ?_
  refine z_aload_n B 0 dL_balanceByPages_2 rfl rfl ?_
  refine z_iload_n B 1 dL_balanceByPages_3 rfl rfl ?_
  refine z_iload_n B 2 dL_balanceByPages_4 rfl rfl ?_
  refine z_w (w' := [(o, .inl (g.2.2.2, 1, .inr (.inl f)))] ++ wc) rfl ?_
  refine z_callC (As := [.int x, .int y]) (st := [.int (nI 0), .ref o]) (C := RX6) (T := TX6) (N := 6) (ci := 6) (l := l) B hLF hl hM gL_balanceByPages_X6_balanceByPages rfl ⟨rfl, rfl⟩ nm_X6_balanceByPages ⟨by decide, by decide⟩ 0 hr0 rfl rfl (Nat.le_of_ble_eq_true rfl) dL_balanceByPages_5 rfl rfl (by decide) (by decide) (fun E w1 hx => ?_) (fun r w1 hp => ?_)
  · rcases hE E w1 hx with rfl | rfl | rfl
    · refine z_catch B hLF htab (by decide) [] ⟨0, 10, 13, 13⟩ [⟨0, 10, 17, 15⟩, ⟨0, 10, 21, 17⟩] rfl (fun _ h => absurd h List.not_mem_nil) (by decide) (by decide) (List.mem_of_getElem? (i := 1) rfl) (fun q => ?_)
      refine z_astore (lv1 := [(4, .ref q), (0, .ref b), (1, .int x), (2, .int y), (3, .ref o)]) B dL_balanceByPages_13 (by decide) rfl ?_
      refine z_iconst (v := nI 1) B dL_balanceByPages_15 (by decide) ?_
      exact z_mret B hAe hr dL_balanceByPages_16 rfl (by decide) (by decide) (Or.inr ⟨_, w1, 0, rfl, rfl, rfl, hx⟩)
    · refine z_catch B hLF htab (by decide) [⟨0, 10, 13, 13⟩] ⟨0, 10, 17, 15⟩ [⟨0, 10, 21, 17⟩] rfl (List.forall_mem_cons.mpr ⟨⟨by decide, "java/lang/IndexOutOfBoundsException", by decide, List.mem_of_getElem? (i := 1) rfl, by decide⟩, (fun _ h => absurd h List.not_mem_nil)⟩) (by decide) (by decide) (List.mem_of_getElem? (i := 2) rfl) (fun q => ?_)
      refine z_astore (lv1 := [(4, .ref q), (0, .ref b), (1, .int x), (2, .int y), (3, .ref o)]) B dL_balanceByPages_17 (by decide) rfl ?_
      refine z_iconst (v := nI 2) B dL_balanceByPages_19 (by decide) ?_
      exact z_mret B hAe hr dL_balanceByPages_20 rfl (by decide) (by decide) (Or.inr ⟨_, w1, 1, rfl, rfl, rfl, hx⟩)
    · refine z_catch B hLF htab (by decide) [⟨0, 10, 13, 13⟩, ⟨0, 10, 17, 15⟩] ⟨0, 10, 21, 17⟩ [] rfl (List.forall_mem_cons.mpr ⟨⟨by decide, "java/lang/IndexOutOfBoundsException", by decide, List.mem_of_getElem? (i := 1) rfl, by decide⟩, (List.forall_mem_cons.mpr ⟨⟨by decide, "java/lang/IllegalArgumentException", by decide, List.mem_of_getElem? (i := 2) rfl, by decide⟩, (fun _ h => absurd h List.not_mem_nil)⟩)⟩) (by decide) (by decide) (List.mem_of_getElem? (i := 3) rfl) (fun q => ?_)
      refine z_astore (lv1 := [(4, .ref q), (0, .ref b), (1, .int x), (2, .int y), (3, .ref o)]) B dL_balanceByPages_21 (by decide) rfl ?_
      refine z_iconst (v := nI 3) B dL_balanceByPages_23 (by decide) ?_
      exact z_mret B hAe hr dL_balanceByPages_24 rfl (by decide) (by decide) (Or.inr ⟨_, w1, 2, rfl, rfl, rfl, hx⟩)
  · refine z_i2l B dL_balanceByPages_8 ?_
    refine z_last (i := 0) (w' := (o, .inl (g.2.2.2, 1, .inr (.inl (vp_updL f 0 r.toInt64)))) :: w1) B 0 3 rfl rfl (by decide) (by decide) dL_balanceByPages_9 rfl ?_
    refine z_goto B 25 dL_balanceByPages_10 (by decide) ?_
    refine z_iconst (v := nI 0) B dL_balanceByPages_25 (by decide) ?_
    exact z_mret B hAe hr dL_balanceByPages_26 rfl (by decide) (by decide) (Or.inl ⟨rfl, r, w1, rfl, hp⟩)
set_option maxHeartbeats 4000000 in
set_option maxRecDepth 100000 in
theorem wr_balanceByCopies (l : Launch) (D : va_G) (g : zG) (o b : Nat) (f : Nat → Int64) (wc : va_W) (fs : List Value) (hr0 : wc[0]? = some (b, .inr (6, fs))) (x : Int32) (y : Int32) (P : Int32 → va_W → Prop) (xp : String → va_W → Prop) (hE : ∀ E w, xp E w → E = "java/lang/IndexOutOfBoundsException" ∨ E = "java/lang/IllegalArgumentException" ∨ E = "java/lang/IllegalStateException") (hM : zThrL l yX6_balanceByCopies wsX6_balanceByCopies { frames := 7, cells := 3, slots := 18, locals := 113 } D (zT g) wc [.ref b, .int x, .int y] P xp 3 18) : zWrp l yL_balanceByCopies wsL_balanceByCopies { frames := 8, cells := 3, slots := 18, locals := 138 } D (zT g) ((o, .inl (g.2.2.2, 1, .inr (.inl f))) :: wc) [.ref b, .int x, .int y, .ref o] (wPost g o f P xp ["java/lang/IndexOutOfBoundsException", "java/lang/IllegalArgumentException", "java/lang/IllegalStateException"]) 3 18 := by
  refine zWrp_of (cc := cL_balanceByCopies) (maxL := 5) (ret := (some .int)) (own := RL) (hh := [(0, 10, 13, 13), (0, 10, 17, 15), (0, 10, 21, 17)]) [(0, .ref b), (1, .int x), (2, .int y), (3, .ref o)] (by decide) rfl rfl rfl (Nat.le_of_ble_eq_true rfl) ?_
  intro X A hAe hl B hr htab hLF
  refine z_aload_n B 3 dL_balanceByCopies_0 rfl rfl ?_
  refine z_iconst (v := nI 0) B dL_balanceByCopies_1 (by decide) ?_
  refine z_aload_n B 0 dL_balanceByCopies_2 rfl rfl ?_
  refine z_iload_n B 1 dL_balanceByCopies_3 rfl rfl ?_
  refine z_iload_n B 2 dL_balanceByCopies_4 rfl rfl ?_
  refine z_w (w' := [(o, .inl (g.2.2.2, 1, .inr (.inl f)))] ++ wc) rfl ?_
  refine z_callC (As := [.int x, .int y]) (st := [.int (nI 0), .ref o]) (C := RX6) (T := TX6) (N := 6) (ci := 6) (l := l) B hLF hl hM gL_balanceByCopies_X6_balanceByCopies rfl ⟨rfl, rfl⟩ nm_X6_balanceByCopies ⟨by decide, by decide⟩ 0 hr0 rfl rfl (Nat.le_of_ble_eq_true rfl) dL_balanceByCopies_5 rfl rfl (by decide) (by decide) (fun E w1 hx => ?_) (fun r w1 hp => ?_)
  · rcases hE E w1 hx with rfl | rfl | rfl
    · refine z_catch B hLF htab (by decide) [] ⟨0, 10, 13, 13⟩ [⟨0, 10, 17, 15⟩, ⟨0, 10, 21, 17⟩] rfl (fun _ h => absurd h List.not_mem_nil) (by decide) (by decide) (List.mem_of_getElem? (i := 1) rfl) (fun q => ?_)
      refine z_astore (lv1 := [(4, .ref q), (0, .ref b), (1, .int x), (2, .int y), (3, .ref o)]) B dL_balanceByCopies_13 (by decide) rfl ?_
      refine z_iconst (v := nI 1) B dL_balanceByCopies_15 (by decide) ?_
      exact z_mret B hAe hr dL_balanceByCopies_16 rfl (by decide) (by decide) (Or.inr ⟨_, w1, 0, rfl, rfl, rfl, hx⟩)
    · refine z_catch B hLF htab (by decide) [⟨0, 10, 13, 13⟩] ⟨0, 10, 17, 15⟩ [⟨0, 10, 21, 17⟩] rfl (List.forall_mem_cons.mpr ⟨⟨by decide, "java/lang/IndexOutOfBoundsException", by decide, List.mem_of_getElem? (i := 1) rfl, by decide⟩, (fun _ h => absurd h List.not_mem_nil)⟩) (by decide) (by decide) (List.mem_of_getElem? (i := 2) rfl) (fun q => ?_)
      refine z_astore (lv1 := [(4, .ref q), (0, .ref b), (1, .int x), (2, .int y), (3, .ref o)]) B dL_balanceByCopies_17 (by decide) rfl ?_
      refine z_iconst (v := nI 2) B dL_balanceByCopies_19 (by decide) ?_
      exact z_mret B hAe hr dL_balanceByCopies_20 rfl (by decide) (by decide) (Or.inr ⟨_, w1, 1, rfl, rfl, rfl, hx⟩)
    · refine z_catch B hLF htab (by decide) [⟨0, 10, 13, 13⟩, ⟨0, 10, 17, 15⟩] ⟨0, 10, 21, 17⟩ [] rfl (List.forall_mem_cons.mpr ⟨⟨by decide, "java/lang/IndexOutOfBoundsException", by decide, List.mem_of_getElem? (i := 1) rfl, by decide⟩, (List.forall_mem_cons.mpr ⟨⟨by decide, "java/lang/IllegalArgumentException", by decide, List.mem_of_getElem? (i := 2) rfl, by decide⟩, (fun _ h => absurd h List.not_mem_nil)⟩)⟩) (by decide) (by decide) (List.mem_of_getElem? (i := 3) rfl) (fun q => ?_)
      refine z_astore (lv1 := [(4, .ref q), (0, .ref b), (1, .int x), (2, .int y), (3, .ref o)]) B dL_balanceByCopies_21 (by decide) rfl ?_
      refine z_iconst (v := nI 3) B dL_balanceByCopies_23 (by decide) ?_
      exact z_mret B hAe hr dL_balanceByCopies_24 rfl (by decide) (by decide) (Or.inr ⟨_, w1, 2, rfl, rfl, rfl, hx⟩)
  · refine z_i2l B dL_balanceByCopies_8 ?_
    refine z_last (i := 0) (w' := (o, .inl (g.2.2.2, 1, .inr (.inl (vp_updL f 0 r.toInt64)))) :: w1) B 0 3 rfl rfl (by decide) (by decide) dL_balanceByCopies_9 rfl ?_
    refine z_goto B 25 dL_balanceByCopies_10 (by decide) ?_
    refine z_iconst (v := nI 0) B dL_balanceByCopies_25 (by decide) ?_
    exact z_mret B hAe hr dL_balanceByCopies_26 rfl (by decide) (by decide) (Or.inl ⟨rfl, r, w1, rfl, hp⟩)
set_option maxHeartbeats 4000000 in
set_option maxRecDepth 100000 in
theorem wr_size (l : Launch) (D : va_G) (g : zG) (o b : Nat) (f : Nat → Int64) (wc : va_W) (fs : List Value) (hr0 : wc[0]? = some (b, .inr (6, fs))) (x : Int32) (P : Int32 → va_W → Prop) (xp : String → va_W → Prop) (hE : ∀ E w, xp E w → E = "java/lang/IndexOutOfBoundsException") (hM : zThrL l yX6_size wsX6_size { frames := 7, cells := 1, slots := 6, locals := 104 } D (zT g) wc [.ref b, .int x] P xp 1 6) : zWrp l yL_size wsL_size { frames := 8, cells := 1, slots := 6, locals := 126 } D (zT g) ((o, .inl (g.2.2.2, 1, .inr (.inl f))) :: wc) [.ref b, .int x, .ref o] (wPost g o f P xp ["java/lang/IndexOutOfBoundsException"]) 1 6 := by
  refine zWrp_of (cc := cL_size) (maxL := 4) (ret := (some .int)) (own := RL) (hh := [(0, 9, 12, 13)]) [(0, .ref b), (1, .int x), (2, .ref o)] (by decide) rfl rfl rfl (Nat.le_of_ble_eq_true rfl) ?_
  intro X A hAe hl B hr htab hLF
  refine z_aload_n B 2 dL_size_0 rfl rfl ?_
  refine z_iconst (v := nI 0) B dL_size_1 (by decide) ?_
  refine z_aload_n B 0 dL_size_2 rfl rfl ?_
  refine z_iload_n B 1 dL_size_3 rfl rfl ?_
  refine z_w (w' := [(o, .inl (g.2.2.2, 1, .inr (.inl f)))] ++ wc) rfl ?_
  refine z_callC (As := [.int x]) (st := [.int (nI 0), .ref o]) (C := RX6) (T := TX6) (N := 6) (ci := 6) (l := l) B hLF hl hM gL_size_X6_size rfl ⟨rfl, rfl⟩ nm_X6_size ⟨by decide, by decide⟩ 0 hr0 rfl rfl (Nat.le_of_ble_eq_true rfl) dL_size_4 rfl rfl (by decide) (by decide) (fun E w1 hx => ?_) (fun r w1 hp => ?_)
  · rcases hE E w1 hx with rfl
    · refine z_catch B hLF htab (by decide) [] ⟨0, 9, 12, 13⟩ [] rfl (fun _ h => absurd h List.not_mem_nil) (by decide) (by decide) (List.mem_of_getElem? (i := 1) rfl) (fun q => ?_)
      refine z_astore_n (lv1 := [(3, .ref q), (0, .ref b), (1, .int x), (2, .ref o)]) B dL_size_12 rfl (by decide) rfl ?_
      refine z_iconst (v := nI 1) B dL_size_13 (by decide) ?_
      exact z_mret B hAe hr dL_size_14 rfl (by decide) (by decide) (Or.inr ⟨_, w1, 0, rfl, rfl, rfl, hx⟩)
  · refine z_i2l B dL_size_7 ?_
    refine z_last (i := 0) (w' := (o, .inl (g.2.2.2, 1, .inr (.inl (vp_updL f 0 r.toInt64)))) :: w1) B 0 3 rfl rfl (by decide) (by decide) dL_size_8 rfl ?_
    refine z_goto B 15 dL_size_9 (by decide) ?_
    refine z_iconst (v := nI 0) B dL_size_15 (by decide) ?_
    exact z_mret B hAe hr dL_size_16 rfl (by decide) (by decide) (Or.inl ⟨rfl, r, w1, rfl, hp⟩)
set_option maxHeartbeats 4000000 in
set_option maxRecDepth 100000 in
theorem wr_isInVault (l : Launch) (D : va_G) (g : zG) (o b : Nat) (f : Nat → Int64) (wc : va_W) (fs : List Value) (hr0 : wc[0]? = some (b, .inr (6, fs))) (x : Int32) (P : Int32 → va_W → Prop) (xp : String → va_W → Prop) (hE : ∀ E w, xp E w → E = "java/lang/IndexOutOfBoundsException") (hB : ∀ r w, P r w → r = 0 ∨ r = 1) (hM : zThrL l yX6_isInVault wsX6_isInVault { frames := 7, cells := 1, slots := 6, locals := 104 } D (zT g) wc [.ref b, .int x] P xp 1 6) : zWrp l yL_isInVault wsL_isInVault { frames := 8, cells := 1, slots := 6, locals := 126 } D (zT g) ((o, .inl (g.2.2.2, 1, .inr (.inl f))) :: wc) [.ref b, .int x, .ref o] (wPost g o f P xp ["java/lang/IndexOutOfBoundsException"]) 1 6 := by
  refine zWrp_of (cc := cL_isInVault) (maxL := 4) (ret := (some .int)) (own := RL) (hh := [(0, 16, 19, 13)]) [(0, .ref b), (1, .int x), (2, .ref o)] (by decide) rfl rfl rfl (Nat.le_of_ble_eq_true rfl) ?_
  intro X A hAe hl B hr htab hLF
  refine z_aload_n B 2 dL_isInVault_0 rfl rfl ?_
  refine z_iconst (v := nI 0) B dL_isInVault_1 (by decide) ?_
  refine z_aload_n B 0 dL_isInVault_2 rfl rfl ?_
  refine z_iload_n B 1 dL_isInVault_3 rfl rfl ?_
  refine z_w (w' := [(o, .inl (g.2.2.2, 1, .inr (.inl f)))] ++ wc) rfl ?_
  refine z_callC (As := [.int x]) (st := [.int (nI 0), .ref o]) (C := RX6) (T := TX6) (N := 6) (ci := 6) (l := l) B hLF hl hM gL_isInVault_X6_isInVault rfl ⟨rfl, rfl⟩ nm_X6_isInVault ⟨by decide, by decide⟩ 0 hr0 rfl rfl (Nat.le_of_ble_eq_true rfl) dL_isInVault_4 rfl rfl (by decide) (by decide) (fun E w1 hx => ?_) (fun r w1 hp => ?_)
  · rcases hE E w1 hx with rfl
    · refine z_catch B hLF htab (by decide) [] ⟨0, 16, 19, 13⟩ [] rfl (fun _ h => absurd h List.not_mem_nil) (by decide) (by decide) (List.mem_of_getElem? (i := 1) rfl) (fun q => ?_)
      refine z_astore_n (lv1 := [(3, .ref q), (0, .ref b), (1, .int x), (2, .ref o)]) B dL_isInVault_19 rfl (by decide) rfl ?_
      refine z_iconst (v := nI 1) B dL_isInVault_20 (by decide) ?_
      exact z_mret B hAe hr dL_isInVault_21 rfl (by decide) (by decide) (Or.inr ⟨_, w1, 0, rfl, rfl, rfl, hx⟩)
  · rcases hB r w1 hp with rfl | rfl
    · refine z_if_eq B 14 dL_isInVault_7 (by decide) (fun _ => ?_) (fun h => absurd rfl h)
      refine z_lconst (v := 0) B dL_isInVault_14 (by decide) ?_
      refine z_last (i := 0) (w' := (o, .inl (g.2.2.2, 1, .inr (.inl (vp_updL f 0 (0 : Int32).toInt64)))) :: w1) B 0 3 rfl rfl (by decide) (by decide) dL_isInVault_15 (by first | rfl | (rw [show (0 : Int32).toInt64 = 0 by decide]; rfl)) ?_
      refine z_goto B 22 dL_isInVault_16 (by decide) ?_
      refine z_iconst (v := nI 0) B dL_isInVault_22 (by decide) ?_
      exact z_mret B hAe hr dL_isInVault_23 rfl (by decide) (by decide) (Or.inl ⟨rfl, 0, w1, rfl, hp⟩)
    · refine z_if_eq B 14 dL_isInVault_7 (by decide) (fun h => absurd h (by decide)) (fun _ => ?_)
      refine z_lconst (v := 1) B dL_isInVault_10 (by decide) ?_
      refine z_goto B 15 dL_isInVault_11 (by decide) ?_
      refine z_last (i := 0) (w' := (o, .inl (g.2.2.2, 1, .inr (.inl (vp_updL f 0 (1 : Int32).toInt64)))) :: w1) B 0 3 rfl rfl (by decide) (by decide) dL_isInVault_15 (by first | rfl | (rw [show (1 : Int32).toInt64 = 1 by decide]; rfl)) ?_
      refine z_goto B 22 dL_isInVault_16 (by decide) ?_
      refine z_iconst (v := nI 0) B dL_isInVault_22 (by decide) ?_
      exact z_mret B hAe hr dL_isInVault_23 rfl (by decide) (by decide) (Or.inl ⟨rfl, 1, w1, rfl, hp⟩)
set_option maxHeartbeats 4000000 in
set_option maxRecDepth 100000 in
theorem wr_stands (l : Launch) (D : va_G) (g : zG) (o b : Nat) (f : Nat → Int64) (wc : va_W) (fs : List Value) (hr0 : wc[0]? = some (b, .inr (6, fs))) (x : Int32) (y : Int32) (P : Int32 → va_W → Prop) (xp : String → va_W → Prop) (hE : ∀ E w, xp E w → E = "java/lang/IndexOutOfBoundsException") (hB : ∀ r w, P r w → r = 0 ∨ r = 1) (hM : zThrL l yX6_stands wsX6_stands { frames := 7, cells := 2, slots := 12, locals := 104 } D (zT g) wc [.ref b, .int x, .int y] P xp 2 12) : zWrp l yL_stands wsL_stands { frames := 8, cells := 2, slots := 12, locals := 127 } D (zT g) ((o, .inl (g.2.2.2, 1, .inr (.inl f))) :: wc) [.ref b, .int x, .int y, .ref o] (wPost g o f P xp ["java/lang/IndexOutOfBoundsException"]) 2 12 := by
  refine zWrp_of (cc := cL_stands) (maxL := 5) (ret := (some .int)) (own := RL) (hh := [(0, 17, 20, 13)]) [(0, .ref b), (1, .int x), (2, .int y), (3, .ref o)] (by decide) rfl rfl rfl (Nat.le_of_ble_eq_true rfl) ?_
  intro X A hAe hl B hr htab hLF
  refine z_aload_n B 3 dL_stands_0 rfl rfl ?_
  refine z_iconst (v := nI 0) B dL_stands_1 (by decide) ?_
  refine z_aload_n B 0 dL_stands_2 rfl rfl ?_
  refine z_iload_n B 1 dL_stands_3 rfl rfl ?_
  refine z_iload_n B 2 dL_stands_4 rfl rfl ?_
  refine z_w (w' := [(o, .inl (g.2.2.2, 1, .inr (.inl f)))] ++ wc) rfl ?_
  refine z_callC (As := [.int x, .int y]) (st := [.int (nI 0), .ref o]) (C := RX6) (T := TX6) (N := 6) (ci := 6) (l := l) B hLF hl hM gL_stands_X6_stands rfl ⟨rfl, rfl⟩ nm_X6_stands ⟨by decide, by decide⟩ 0 hr0 rfl rfl (Nat.le_of_ble_eq_true rfl) dL_stands_5 rfl rfl (by decide) (by decide) (fun E w1 hx => ?_) (fun r w1 hp => ?_)
  · rcases hE E w1 hx with rfl
    · refine z_catch B hLF htab (by decide) [] ⟨0, 17, 20, 13⟩ [] rfl (fun _ h => absurd h List.not_mem_nil) (by decide) (by decide) (List.mem_of_getElem? (i := 1) rfl) (fun q => ?_)
      refine z_astore (lv1 := [(4, .ref q), (0, .ref b), (1, .int x), (2, .int y), (3, .ref o)]) B dL_stands_20 (by decide) rfl ?_
      refine z_iconst (v := nI 1) B dL_stands_22 (by decide) ?_
      exact z_mret B hAe hr dL_stands_23 rfl (by decide) (by decide) (Or.inr ⟨_, w1, 0, rfl, rfl, rfl, hx⟩)
  · rcases hB r w1 hp with rfl | rfl
    · refine z_if_eq B 15 dL_stands_8 (by decide) (fun _ => ?_) (fun h => absurd rfl h)
      refine z_lconst (v := 0) B dL_stands_15 (by decide) ?_
      refine z_last (i := 0) (w' := (o, .inl (g.2.2.2, 1, .inr (.inl (vp_updL f 0 (0 : Int32).toInt64)))) :: w1) B 0 3 rfl rfl (by decide) (by decide) dL_stands_16 (by first | rfl | (rw [show (0 : Int32).toInt64 = 0 by decide]; rfl)) ?_
      refine z_goto B 24 dL_stands_17 (by decide) ?_
      refine z_iconst (v := nI 0) B dL_stands_24 (by decide) ?_
      exact z_mret B hAe hr dL_stands_25 rfl (by decide) (by decide) (Or.inl ⟨rfl, 0, w1, rfl, hp⟩)
    · refine z_if_eq B 15 dL_stands_8 (by decide) (fun h => absurd h (by decide)) (fun _ => ?_)
      refine z_lconst (v := 1) B dL_stands_11 (by decide) ?_
      refine z_goto B 16 dL_stands_12 (by decide) ?_
      refine z_last (i := 0) (w' := (o, .inl (g.2.2.2, 1, .inr (.inl (vp_updL f 0 (1 : Int32).toInt64)))) :: w1) B 0 3 rfl rfl (by decide) (by decide) dL_stands_16 (by first | rfl | (rw [show (1 : Int32).toInt64 = 1 by decide]; rfl)) ?_
      refine z_goto B 24 dL_stands_17 (by decide) ?_
      refine z_iconst (v := nI 0) B dL_stands_24 (by decide) ?_
      exact z_mret B hAe hr dL_stands_25 rfl (by decide) (by decide) (Or.inl ⟨rfl, 1, w1, rfl, hp⟩)
set_option maxHeartbeats 4000000 in
set_option maxRecDepth 100000 in
theorem wr_copiesOf (l : Launch) (D : va_G) (g : zG) (o b : Nat) (f : Nat → Int64) (wc : va_W) (fs : List Value) (hr0 : wc[0]? = some (b, .inr (6, fs))) (x : Int32) (P : Int32 → va_W → Prop) (xp : String → va_W → Prop) (hE : ∀ E w, xp E w → E = "java/lang/IndexOutOfBoundsException") (hM : zThrL l yX6_copiesOf wsX6_copiesOf { frames := 7, cells := 1, slots := 6, locals := 103 } D (zT g) wc [.ref b, .int x] P xp 1 6) : zWrp l yL_copiesOf wsL_copiesOf { frames := 8, cells := 1, slots := 6, locals := 124 } D (zT g) ((o, .inl (g.2.2.2, 1, .inr (.inl f))) :: wc) [.ref b, .int x, .ref o] (wPost g o f P xp ["java/lang/IndexOutOfBoundsException"]) 1 6 := by
  refine zWrp_of (cc := cL_copiesOf) (maxL := 4) (ret := (some .int)) (own := RL) (hh := [(0, 9, 12, 13)]) [(0, .ref b), (1, .int x), (2, .ref o)] (by decide) rfl rfl rfl (Nat.le_of_ble_eq_true rfl) ?_
  intro X A hAe hl B hr htab hLF
  refine z_aload_n B 2 dL_copiesOf_0 rfl rfl ?_
  refine z_iconst (v := nI 0) B dL_copiesOf_1 (by decide) ?_
  refine z_aload_n B 0 dL_copiesOf_2 rfl rfl ?_
  refine z_iload_n B 1 dL_copiesOf_3 rfl rfl ?_
  refine z_w (w' := [(o, .inl (g.2.2.2, 1, .inr (.inl f)))] ++ wc) rfl ?_
  refine z_callC (As := [.int x]) (st := [.int (nI 0), .ref o]) (C := RX6) (T := TX6) (N := 6) (ci := 6) (l := l) B hLF hl hM gL_copiesOf_X6_copiesOf rfl ⟨rfl, rfl⟩ nm_X6_copiesOf ⟨by decide, by decide⟩ 0 hr0 rfl rfl (Nat.le_of_ble_eq_true rfl) dL_copiesOf_4 rfl rfl (by decide) (by decide) (fun E w1 hx => ?_) (fun r w1 hp => ?_)
  · rcases hE E w1 hx with rfl
    · refine z_catch B hLF htab (by decide) [] ⟨0, 9, 12, 13⟩ [] rfl (fun _ h => absurd h List.not_mem_nil) (by decide) (by decide) (List.mem_of_getElem? (i := 1) rfl) (fun q => ?_)
      refine z_astore_n (lv1 := [(3, .ref q), (0, .ref b), (1, .int x), (2, .ref o)]) B dL_copiesOf_12 rfl (by decide) rfl ?_
      refine z_iconst (v := nI 1) B dL_copiesOf_13 (by decide) ?_
      exact z_mret B hAe hr dL_copiesOf_14 rfl (by decide) (by decide) (Or.inr ⟨_, w1, 0, rfl, rfl, rfl, hx⟩)
  · refine z_i2l B dL_copiesOf_7 ?_
    refine z_last (i := 0) (w' := (o, .inl (g.2.2.2, 1, .inr (.inl (vp_updL f 0 r.toInt64)))) :: w1) B 0 3 rfl rfl (by decide) (by decide) dL_copiesOf_8 rfl ?_
    refine z_goto B 15 dL_copiesOf_9 (by decide) ?_
    refine z_iconst (v := nI 0) B dL_copiesOf_15 (by decide) ?_
    exact z_mret B hAe hr dL_copiesOf_16 rfl (by decide) (by decide) (Or.inl ⟨rfl, r, w1, rfl, hp⟩)
set_option maxHeartbeats 4000000 in
set_option maxRecDepth 100000 in
theorem wr_canRestore (l : Launch) (D : va_G) (g : zG) (o b : Nat) (f : Nat → Int64) (wc : va_W) (fs : List Value) (hr0 : wc[0]? = some (b, .inr (6, fs))) (x : Int32) (P : Int32 → va_W → Prop) (xp : String → va_W → Prop) (hE : ∀ E w, xp E w → E = "java/lang/IndexOutOfBoundsException") (hB : ∀ r w, P r w → r = 0 ∨ r = 1) (hM : zThrL l yX6_canRestore wsX6_canRestore { frames := 7, cells := 1, slots := 6, locals := 104 } D (zT g) wc [.ref b, .int x] P xp 1 6) : zWrp l yL_canRestore wsL_canRestore { frames := 8, cells := 1, slots := 6, locals := 126 } D (zT g) ((o, .inl (g.2.2.2, 1, .inr (.inl f))) :: wc) [.ref b, .int x, .ref o] (wPost g o f P xp ["java/lang/IndexOutOfBoundsException"]) 1 6 := by
  refine zWrp_of (cc := cL_canRestore) (maxL := 4) (ret := (some .int)) (own := RL) (hh := [(0, 16, 19, 13)]) [(0, .ref b), (1, .int x), (2, .ref o)] (by decide) rfl rfl rfl (Nat.le_of_ble_eq_true rfl) ?_
  intro X A hAe hl B hr htab hLF
  refine z_aload_n B 2 dL_canRestore_0 rfl rfl ?_
  refine z_iconst (v := nI 0) B dL_canRestore_1 (by decide) ?_
  refine z_aload_n B 0 dL_canRestore_2 rfl rfl ?_
  refine z_iload_n B 1 dL_canRestore_3 rfl rfl ?_
  refine z_w (w' := [(o, .inl (g.2.2.2, 1, .inr (.inl f)))] ++ wc) rfl ?_
  refine z_callC (As := [.int x]) (st := [.int (nI 0), .ref o]) (C := RX6) (T := TX6) (N := 6) (ci := 6) (l := l) B hLF hl hM gL_canRestore_X6_canRestore rfl ⟨rfl, rfl⟩ nm_X6_canRestore ⟨by decide, by decide⟩ 0 hr0 rfl rfl (Nat.le_of_ble_eq_true rfl) dL_canRestore_4 rfl rfl (by decide) (by decide) (fun E w1 hx => ?_) (fun r w1 hp => ?_)
  · rcases hE E w1 hx with rfl
    · refine z_catch B hLF htab (by decide) [] ⟨0, 16, 19, 13⟩ [] rfl (fun _ h => absurd h List.not_mem_nil) (by decide) (by decide) (List.mem_of_getElem? (i := 1) rfl) (fun q => ?_)
      refine z_astore_n (lv1 := [(3, .ref q), (0, .ref b), (1, .int x), (2, .ref o)]) B dL_canRestore_19 rfl (by decide) rfl ?_
      refine z_iconst (v := nI 1) B dL_canRestore_20 (by decide) ?_
      exact z_mret B hAe hr dL_canRestore_21 rfl (by decide) (by decide) (Or.inr ⟨_, w1, 0, rfl, rfl, rfl, hx⟩)
  · rcases hB r w1 hp with rfl | rfl
    · refine z_if_eq B 14 dL_canRestore_7 (by decide) (fun _ => ?_) (fun h => absurd rfl h)
      refine z_lconst (v := 0) B dL_canRestore_14 (by decide) ?_
      refine z_last (i := 0) (w' := (o, .inl (g.2.2.2, 1, .inr (.inl (vp_updL f 0 (0 : Int32).toInt64)))) :: w1) B 0 3 rfl rfl (by decide) (by decide) dL_canRestore_15 (by first | rfl | (rw [show (0 : Int32).toInt64 = 0 by decide]; rfl)) ?_
      refine z_goto B 22 dL_canRestore_16 (by decide) ?_
      refine z_iconst (v := nI 0) B dL_canRestore_22 (by decide) ?_
      exact z_mret B hAe hr dL_canRestore_23 rfl (by decide) (by decide) (Or.inl ⟨rfl, 0, w1, rfl, hp⟩)
    · refine z_if_eq B 14 dL_canRestore_7 (by decide) (fun h => absurd h (by decide)) (fun _ => ?_)
      refine z_lconst (v := 1) B dL_canRestore_10 (by decide) ?_
      refine z_goto B 15 dL_canRestore_11 (by decide) ?_
      refine z_last (i := 0) (w' := (o, .inl (g.2.2.2, 1, .inr (.inl (vp_updL f 0 (1 : Int32).toInt64)))) :: w1) B 0 3 rfl rfl (by decide) (by decide) dL_canRestore_15 (by first | rfl | (rw [show (1 : Int32).toInt64 = 1 by decide]; rfl)) ?_
      refine z_goto B 22 dL_canRestore_16 (by decide) ?_
      refine z_iconst (v := nI 0) B dL_canRestore_22 (by decide) ?_
      exact z_mret B hAe hr dL_canRestore_23 rfl (by decide) (by decide) (Or.inl ⟨rfl, 1, w1, rfl, hp⟩)
set_option maxHeartbeats 4000000 in
set_option maxRecDepth 100000 in
theorem wr_audit (l : Launch) (D : va_G) (g : zG) (o b : Nat) (f : Nat → Int64) (wc : va_W) (fs : List Value) (hr0 : wc[0]? = some (b, .inr (6, fs))) (x : Int32) (P : Int32 → va_W → Prop) (xp : String → va_W → Prop) (hE : ∀ E w, xp E w → E = "java/lang/IndexOutOfBoundsException") (hM : zThrL l yX6_audit wsX6_audit { frames := 7, cells := 1, slots := 6, locals := 104 } D (zT g) wc [.ref b, .int x] P xp 1 6) : zWrp l yL_audit wsL_audit { frames := 8, cells := 1, slots := 6, locals := 128 } D (zT g) ((o, .inl (g.2.2.2, 1, .inr (.inl f))) :: wc) [.ref b, .int x, .ref o] (wPost g o f P xp ["java/lang/IndexOutOfBoundsException"]) 1 6 := by
  refine zWrp_of (cc := cL_audit) (maxL := 4) (ret := (some .int)) (own := RL) (hh := [(0, 9, 12, 13)]) [(0, .ref b), (1, .int x), (2, .ref o)] (by decide) rfl rfl rfl (Nat.le_of_ble_eq_true rfl) ?_
  intro X A hAe hl B hr htab hLF
  refine z_aload_n B 2 dL_audit_0 rfl rfl ?_
  refine z_iconst (v := nI 0) B dL_audit_1 (by decide) ?_
  refine z_aload_n B 0 dL_audit_2 rfl rfl ?_
  refine z_iload_n B 1 dL_audit_3 rfl rfl ?_
  refine z_w (w' := [(o, .inl (g.2.2.2, 1, .inr (.inl f)))] ++ wc) rfl ?_
  refine z_callC (As := [.int x]) (st := [.int (nI 0), .ref o]) (C := RX6) (T := TX6) (N := 6) (ci := 6) (l := l) B hLF hl hM gL_audit_X6_audit rfl ⟨rfl, rfl⟩ nm_X6_audit ⟨by decide, by decide⟩ 0 hr0 rfl rfl (Nat.le_of_ble_eq_true rfl) dL_audit_4 rfl rfl (by decide) (by decide) (fun E w1 hx => ?_) (fun r w1 hp => ?_)
  · rcases hE E w1 hx with rfl
    · refine z_catch B hLF htab (by decide) [] ⟨0, 9, 12, 13⟩ [] rfl (fun _ h => absurd h List.not_mem_nil) (by decide) (by decide) (List.mem_of_getElem? (i := 1) rfl) (fun q => ?_)
      refine z_astore_n (lv1 := [(3, .ref q), (0, .ref b), (1, .int x), (2, .ref o)]) B dL_audit_12 rfl (by decide) rfl ?_
      refine z_iconst (v := nI 1) B dL_audit_13 (by decide) ?_
      exact z_mret B hAe hr dL_audit_14 rfl (by decide) (by decide) (Or.inr ⟨_, w1, 0, rfl, rfl, rfl, hx⟩)
  · refine z_i2l B dL_audit_7 ?_
    refine z_last (i := 0) (w' := (o, .inl (g.2.2.2, 1, .inr (.inl (vp_updL f 0 r.toInt64)))) :: w1) B 0 3 rfl rfl (by decide) (by decide) dL_audit_8 rfl ?_
    refine z_goto B 15 dL_audit_9 (by decide) ?_
    refine z_iconst (v := nI 0) B dL_audit_15 (by decide) ?_
    exact z_mret B hAe hr dL_audit_16 rfl (by decide) (by decide) (Or.inl ⟨rfl, r, w1, rfl, hp⟩)
set_option maxHeartbeats 4000000 in
set_option maxRecDepth 100000 in
theorem wr_isOpen (l : Launch) (D : va_G) (g : zG) (o b : Nat) (f : Nat → Int64) (wc : va_W) (fs : List Value) (hr0 : wc[0]? = some (b, .inr (6, fs))) (x : Int32) (P : Int32 → va_W → Prop) (xp : String → va_W → Prop) (hE : ∀ E w, xp E w → E = "java/lang/IndexOutOfBoundsException") (hB : ∀ r w, P r w → r = 0 ∨ r = 1) (hM : zThrL l yX6_isOpen wsX6_isOpen { frames := 7, cells := 1, slots := 6, locals := 103 } D (zT g) wc [.ref b, .int x] P xp 1 6) : zWrp l yL_isOpen wsL_isOpen { frames := 8, cells := 1, slots := 6, locals := 124 } D (zT g) ((o, .inl (g.2.2.2, 1, .inr (.inl f))) :: wc) [.ref b, .int x, .ref o] (wPost g o f P xp ["java/lang/IndexOutOfBoundsException"]) 1 6 := by
  refine zWrp_of (cc := cL_isOpen) (maxL := 4) (ret := (some .int)) (own := RL) (hh := [(0, 16, 19, 13)]) [(0, .ref b), (1, .int x), (2, .ref o)] (by decide) rfl rfl rfl (Nat.le_of_ble_eq_true rfl) ?_
  intro X A hAe hl B hr htab hLF
  refine z_aload_n B 2 dL_isOpen_0 rfl rfl ?_
  refine z_iconst (v := nI 0) B dL_isOpen_1 (by decide) ?_
  refine z_aload_n B 0 dL_isOpen_2 rfl rfl ?_
  refine z_iload_n B 1 dL_isOpen_3 rfl rfl ?_
  refine z_w (w' := [(o, .inl (g.2.2.2, 1, .inr (.inl f)))] ++ wc) rfl ?_
  refine z_callC (As := [.int x]) (st := [.int (nI 0), .ref o]) (C := RX6) (T := TX6) (N := 6) (ci := 6) (l := l) B hLF hl hM gL_isOpen_X6_isOpen rfl ⟨rfl, rfl⟩ nm_X6_isOpen ⟨by decide, by decide⟩ 0 hr0 rfl rfl (Nat.le_of_ble_eq_true rfl) dL_isOpen_4 rfl rfl (by decide) (by decide) (fun E w1 hx => ?_) (fun r w1 hp => ?_)
  · rcases hE E w1 hx with rfl
    · refine z_catch B hLF htab (by decide) [] ⟨0, 16, 19, 13⟩ [] rfl (fun _ h => absurd h List.not_mem_nil) (by decide) (by decide) (List.mem_of_getElem? (i := 1) rfl) (fun q => ?_)
      refine z_astore_n (lv1 := [(3, .ref q), (0, .ref b), (1, .int x), (2, .ref o)]) B dL_isOpen_19 rfl (by decide) rfl ?_
      refine z_iconst (v := nI 1) B dL_isOpen_20 (by decide) ?_
      exact z_mret B hAe hr dL_isOpen_21 rfl (by decide) (by decide) (Or.inr ⟨_, w1, 0, rfl, rfl, rfl, hx⟩)
  · rcases hB r w1 hp with rfl | rfl
    · refine z_if_eq B 14 dL_isOpen_7 (by decide) (fun _ => ?_) (fun h => absurd rfl h)
      refine z_lconst (v := 0) B dL_isOpen_14 (by decide) ?_
      refine z_last (i := 0) (w' := (o, .inl (g.2.2.2, 1, .inr (.inl (vp_updL f 0 (0 : Int32).toInt64)))) :: w1) B 0 3 rfl rfl (by decide) (by decide) dL_isOpen_15 (by first | rfl | (rw [show (0 : Int32).toInt64 = 0 by decide]; rfl)) ?_
      refine z_goto B 22 dL_isOpen_16 (by decide) ?_
      refine z_iconst (v := nI 0) B dL_isOpen_22 (by decide) ?_
      exact z_mret B hAe hr dL_isOpen_23 rfl (by decide) (by decide) (Or.inl ⟨rfl, 0, w1, rfl, hp⟩)
    · refine z_if_eq B 14 dL_isOpen_7 (by decide) (fun h => absurd h (by decide)) (fun _ => ?_)
      refine z_lconst (v := 1) B dL_isOpen_10 (by decide) ?_
      refine z_goto B 15 dL_isOpen_11 (by decide) ?_
      refine z_last (i := 0) (w' := (o, .inl (g.2.2.2, 1, .inr (.inl (vp_updL f 0 (1 : Int32).toInt64)))) :: w1) B 0 3 rfl rfl (by decide) (by decide) dL_isOpen_15 (by first | rfl | (rw [show (1 : Int32).toInt64 = 1 by decide]; rfl)) ?_
      refine z_goto B 22 dL_isOpen_16 (by decide) ?_
      refine z_iconst (v := nI 0) B dL_isOpen_22 (by decide) ?_
      exact z_mret B hAe hr dL_isOpen_23 rfl (by decide) (by decide) (Or.inl ⟨rfl, 1, w1, rfl, hp⟩)
set_option maxHeartbeats 4000000 in
set_option maxRecDepth 100000 in
theorem wr_holders (l : Launch) (D : va_G) (g : zG) (o b : Nat) (f : Nat → Int64) (wc : va_W) (fs : List Value) (hr0 : wc[0]? = some (b, .inr (6, fs))) (x : Int32) (P : Int32 → va_W → Prop) (xp : String → va_W → Prop) (hE : ∀ E w, xp E w → E = "java/lang/IndexOutOfBoundsException") (hM : zThrL l yX6_holders wsX6_holders { frames := 7, cells := 1, slots := 6, locals := 103 } D (zT g) wc [.ref b, .int x] P xp 1 6) : zWrp l yL_holders wsL_holders { frames := 8, cells := 1, slots := 6, locals := 124 } D (zT g) ((o, .inl (g.2.2.2, 1, .inr (.inl f))) :: wc) [.ref b, .int x, .ref o] (wPost g o f P xp ["java/lang/IndexOutOfBoundsException"]) 1 6 := by
  refine zWrp_of (cc := cL_holders) (maxL := 4) (ret := (some .int)) (own := RL) (hh := [(0, 9, 12, 13)]) [(0, .ref b), (1, .int x), (2, .ref o)] (by decide) rfl rfl rfl (Nat.le_of_ble_eq_true rfl) ?_
  intro X A hAe hl B hr htab hLF
  refine z_aload_n B 2 dL_holders_0 rfl rfl ?_
  refine z_iconst (v := nI 0) B dL_holders_1 (by decide) ?_
  refine z_aload_n B 0 dL_holders_2 rfl rfl ?_
  refine z_iload_n B 1 dL_holders_3 rfl rfl ?_
  refine z_w (w' := [(o, .inl (g.2.2.2, 1, .inr (.inl f)))] ++ wc) rfl ?_
  refine z_callC (As := [.int x]) (st := [.int (nI 0), .ref o]) (C := RX6) (T := TX6) (N := 6) (ci := 6) (l := l) B hLF hl hM gL_holders_X6_holders rfl ⟨rfl, rfl⟩ nm_X6_holders ⟨by decide, by decide⟩ 0 hr0 rfl rfl (Nat.le_of_ble_eq_true rfl) dL_holders_4 rfl rfl (by decide) (by decide) (fun E w1 hx => ?_) (fun r w1 hp => ?_)
  · rcases hE E w1 hx with rfl
    · refine z_catch B hLF htab (by decide) [] ⟨0, 9, 12, 13⟩ [] rfl (fun _ h => absurd h List.not_mem_nil) (by decide) (by decide) (List.mem_of_getElem? (i := 1) rfl) (fun q => ?_)
      refine z_astore_n (lv1 := [(3, .ref q), (0, .ref b), (1, .int x), (2, .ref o)]) B dL_holders_12 rfl (by decide) rfl ?_
      refine z_iconst (v := nI 1) B dL_holders_13 (by decide) ?_
      exact z_mret B hAe hr dL_holders_14 rfl (by decide) (by decide) (Or.inr ⟨_, w1, 0, rfl, rfl, rfl, hx⟩)
  · refine z_i2l B dL_holders_7 ?_
    refine z_last (i := 0) (w' := (o, .inl (g.2.2.2, 1, .inr (.inl (vp_updL f 0 r.toInt64)))) :: w1) B 0 3 rfl rfl (by decide) (by decide) dL_holders_8 rfl ?_
    refine z_goto B 15 dL_holders_9 (by decide) ?_
    refine z_iconst (v := nI 0) B dL_holders_15 (by decide) ?_
    exact z_mret B hAe hr dL_holders_16 rfl (by decide) (by decide) (Or.inl ⟨rfl, r, w1, rfl, hp⟩)
set_option maxHeartbeats 4000000 in
set_option maxRecDepth 100000 in
theorem wr_canStrike (l : Launch) (D : va_G) (g : zG) (o b : Nat) (f : Nat → Int64) (wc : va_W) (fs : List Value) (hr0 : wc[0]? = some (b, .inr (6, fs))) (x : Int32) (y : Int32) (P : Int32 → va_W → Prop) (xp : String → va_W → Prop) (hE : ∀ E w, xp E w → E = "java/lang/IndexOutOfBoundsException") (hB : ∀ r w, P r w → r = 0 ∨ r = 1) (hM : zThrL l yX6_canStrike wsX6_canStrike { frames := 7, cells := 2, slots := 12, locals := 103 } D (zT g) wc [.ref b, .int x, .int y] P xp 2 12) : zWrp l yL_canStrike wsL_canStrike { frames := 8, cells := 2, slots := 12, locals := 125 } D (zT g) ((o, .inl (g.2.2.2, 1, .inr (.inl f))) :: wc) [.ref b, .int x, .int y, .ref o] (wPost g o f P xp ["java/lang/IndexOutOfBoundsException"]) 2 12 := by
  refine zWrp_of (cc := cL_canStrike) (maxL := 5) (ret := (some .int)) (own := RL) (hh := [(0, 17, 20, 13)]) [(0, .ref b), (1, .int x), (2, .int y), (3, .ref o)] (by decide) rfl rfl rfl (Nat.le_of_ble_eq_true rfl) ?_
  intro X A hAe hl B hr htab hLF
  refine z_aload_n B 3 dL_canStrike_0 rfl rfl ?_
  refine z_iconst (v := nI 0) B dL_canStrike_1 (by decide) ?_
  refine z_aload_n B 0 dL_canStrike_2 rfl rfl ?_
  refine z_iload_n B 1 dL_canStrike_3 rfl rfl ?_
  refine z_iload_n B 2 dL_canStrike_4 rfl rfl ?_
  refine z_w (w' := [(o, .inl (g.2.2.2, 1, .inr (.inl f)))] ++ wc) rfl ?_
  refine z_callC (As := [.int x, .int y]) (st := [.int (nI 0), .ref o]) (C := RX6) (T := TX6) (N := 6) (ci := 6) (l := l) B hLF hl hM gL_canStrike_X6_canStrike rfl ⟨rfl, rfl⟩ nm_X6_canStrike ⟨by decide, by decide⟩ 0 hr0 rfl rfl (Nat.le_of_ble_eq_true rfl) dL_canStrike_5 rfl rfl (by decide) (by decide) (fun E w1 hx => ?_) (fun r w1 hp => ?_)
  · rcases hE E w1 hx with rfl
    · refine z_catch B hLF htab (by decide) [] ⟨0, 17, 20, 13⟩ [] rfl (fun _ h => absurd h List.not_mem_nil) (by decide) (by decide) (List.mem_of_getElem? (i := 1) rfl) (fun q => ?_)
      refine z_astore (lv1 := [(4, .ref q), (0, .ref b), (1, .int x), (2, .int y), (3, .ref o)]) B dL_canStrike_20 (by decide) rfl ?_
      refine z_iconst (v := nI 1) B dL_canStrike_22 (by decide) ?_
      exact z_mret B hAe hr dL_canStrike_23 rfl (by decide) (by decide) (Or.inr ⟨_, w1, 0, rfl, rfl, rfl, hx⟩)
  · rcases hB r w1 hp with rfl | rfl
    · refine z_if_eq B 15 dL_canStrike_8 (by decide) (fun _ => ?_) (fun h => absurd rfl h)
      refine z_lconst (v := 0) B dL_canStrike_15 (by decide) ?_
      refine z_last (i := 0) (w' := (o, .inl (g.2.2.2, 1, .inr (.inl (vp_updL f 0 (0 : Int32).toInt64)))) :: w1) B 0 3 rfl rfl (by decide) (by decide) dL_canStrike_16 (by first | rfl | (rw [show (0 : Int32).toInt64 = 0 by decide]; rfl)) ?_
      refine z_goto B 24 dL_canStrike_17 (by decide) ?_
      refine z_iconst (v := nI 0) B dL_canStrike_24 (by decide) ?_
      exact z_mret B hAe hr dL_canStrike_25 rfl (by decide) (by decide) (Or.inl ⟨rfl, 0, w1, rfl, hp⟩)
    · refine z_if_eq B 15 dL_canStrike_8 (by decide) (fun h => absurd h (by decide)) (fun _ => ?_)
      refine z_lconst (v := 1) B dL_canStrike_11 (by decide) ?_
      refine z_goto B 16 dL_canStrike_12 (by decide) ?_
      refine z_last (i := 0) (w' := (o, .inl (g.2.2.2, 1, .inr (.inl (vp_updL f 0 (1 : Int32).toInt64)))) :: w1) B 0 3 rfl rfl (by decide) (by decide) dL_canStrike_16 (by first | rfl | (rw [show (1 : Int32).toInt64 = 1 by decide]; rfl)) ?_
      refine z_goto B 24 dL_canStrike_17 (by decide) ?_
      refine z_iconst (v := nI 0) B dL_canStrike_24 (by decide) ?_
      exact z_mret B hAe hr dL_canStrike_25 rfl (by decide) (by decide) (Or.inl ⟨rfl, 1, w1, rfl, hp⟩)
