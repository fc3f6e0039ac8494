/-! the law's wrappers -/
set_option maxHeartbeats 4000000 in
set_option maxRecDepth 100000 in
theorem wr_leg (l : Launch) (D : va_G) (g : zG) (o b : Nat) (f : Nat → Int64) (wc : va_W) (fs : List Value) (hr0 : wc[0]? = some (b, .inr (6, fs))) (x : Int32) (y : Int32) (P : Int32 → va_W → Prop) (xp : String → va_W → Prop) (hE : ∀ E w, xp E w → E = "java/lang/IndexOutOfBoundsException" ∨ E = "java/lang/IllegalArgumentException" ∨ E = "java/lang/IllegalStateException") (hM : zThrL l yX6_leg wsX6_leg { frames := 7, cells := 3, slots := 18, locals := 102 } D (zT g) wc [.ref b, .int x, .int y] P xp 3 18) : zWrp l yL_leg wsL_leg { frames := 8, cells := 3, slots := 18, locals := 124 } D (zT g) ((o, .inl (g.2.2.2, 1, .inr (.inl f))) :: wc) [.ref b, .int x, .int y, .ref o] (wPost g o f P xp ["java/lang/IndexOutOfBoundsException", "java/lang/IllegalArgumentException", "java/lang/IllegalStateException"]) 3 18 := by
  refine zWrp_of (cc := cL_leg) (maxL := 5) (ret := (some .int)) (own := RL) (hh := [(0, 10, 13, 13), (0, 10, 17, 15), (0, 10, 21, 17)]) [(0, .ref b), (1, .int x), (2, .int y), (3, .ref o)] (by decide) rfl rfl rfl (Nat.le_of_ble_eq_true rfl) ?_
  intro X A hAe hl B hr htab hLF
  refine z_aload_n B 3 dL_leg_0 rfl rfl ?_
  refine z_iconst (v := nI 0) B dL_leg_1 (by decide) ?_
  refine z_aload_n B 0 dL_leg_2 rfl rfl ?_
  refine z_iload_n B 1 dL_leg_3 rfl rfl ?_
  refine z_iload_n B 2 dL_leg_4 rfl rfl ?_
  refine z_w (w' := [(o, .inl (g.2.2.2, 1, .inr (.inl f)))] ++ wc) rfl ?_
  refine z_callC (As := [.int x, .int y]) (st := [.int (nI 0), .ref o]) (C := RX6) (T := TX6) (N := 6) (ci := 6) (l := l) B hLF hl hM gL_leg_X6_leg rfl ⟨rfl, rfl⟩ nm_X6_leg ⟨by decide, by decide⟩ 0 hr0 rfl rfl (Nat.le_of_ble_eq_true rfl) dL_leg_5 rfl rfl (by decide) (by decide) (fun E w1 hx => ?_) (fun r w1 hp => ?_)
  · rcases hE E w1 hx with rfl | rfl | rfl
    · refine z_catch B hLF htab (by decide) [] ⟨0, 10, 13, 13⟩ [⟨0, 10, 17, 15⟩, ⟨0, 10, 21, 17⟩] rfl (fun _ h => absurd h List.not_mem_nil) (by decide) (by decide) (List.mem_of_getElem? (i := 1) rfl) (fun q => ?_)
      refine z_astore (lv1 := [(4, .ref q), (0, .ref b), (1, .int x), (2, .int y), (3, .ref o)]) B dL_leg_13 (by decide) rfl ?_
      refine z_iconst (v := nI 1) B dL_leg_15 (by decide) ?_
      exact z_mret B hAe hr dL_leg_16 rfl (by decide) (by decide) (Or.inr ⟨_, w1, 0, rfl, rfl, rfl, hx⟩)
    · refine z_catch B hLF htab (by decide) [⟨0, 10, 13, 13⟩] ⟨0, 10, 17, 15⟩ [⟨0, 10, 21, 17⟩] rfl (List.forall_mem_cons.mpr ⟨⟨by decide, "java/lang/IndexOutOfBoundsException", by decide, List.mem_of_getElem? (i := 1) rfl, by decide⟩, (fun _ h => absurd h List.not_mem_nil)⟩) (by decide) (by decide) (List.mem_of_getElem? (i := 2) rfl) (fun q => ?_)
      refine z_astore (lv1 := [(4, .ref q), (0, .ref b), (1, .int x), (2, .int y), (3, .ref o)]) B dL_leg_17 (by decide) rfl ?_
      refine z_iconst (v := nI 2) B dL_leg_19 (by decide) ?_
      exact z_mret B hAe hr dL_leg_20 rfl (by decide) (by decide) (Or.inr ⟨_, w1, 1, rfl, rfl, rfl, hx⟩)
    · refine z_catch B hLF htab (by decide) [⟨0, 10, 13, 13⟩, ⟨0, 10, 17, 15⟩] ⟨0, 10, 21, 17⟩ [] rfl (List.forall_mem_cons.mpr ⟨⟨by decide, "java/lang/IndexOutOfBoundsException", by decide, List.mem_of_getElem? (i := 1) rfl, by decide⟩, (List.forall_mem_cons.mpr ⟨⟨by decide, "java/lang/IllegalArgumentException", by decide, List.mem_of_getElem? (i := 2) rfl, by decide⟩, (fun _ h => absurd h List.not_mem_nil)⟩)⟩) (by decide) (by decide) (List.mem_of_getElem? (i := 3) rfl) (fun q => ?_)
      refine z_astore (lv1 := [(4, .ref q), (0, .ref b), (1, .int x), (2, .int y), (3, .ref o)]) B dL_leg_21 (by decide) rfl ?_
      refine z_iconst (v := nI 3) B dL_leg_23 (by decide) ?_
      exact z_mret B hAe hr dL_leg_24 rfl (by decide) (by decide) (Or.inr ⟨_, w1, 2, rfl, rfl, rfl, hx⟩)
  · refine z_i2l B dL_leg_8 ?_
    refine z_last (i := 0) (w' := (o, .inl (g.2.2.2, 1, .inr (.inl (vp_updL f 0 r.toInt64)))) :: w1) B 0 3 rfl rfl (by decide) (by decide) dL_leg_9 rfl ?_
    refine z_goto B 25 dL_leg_10 (by decide) ?_
    refine z_iconst (v := nI 0) B dL_leg_25 (by decide) ?_
    exact z_mret B hAe hr dL_leg_26 rfl (by decide) (by decide) (Or.inl ⟨rfl, r, w1, rfl, hp⟩)
set_option maxHeartbeats 4000000 in
set_option maxRecDepth 100000 in
theorem wr_write (l : Launch) (D : va_G) (g : zG) (o b : Nat) (f : Nat → Int64) (wc : va_W) (fs : List Value) (hr0 : wc[0]? = some (b, .inr (6, fs))) (x : Int32) (P : Int32 → va_W → Prop) (xp : String → va_W → Prop) (hE : ∀ E w, xp E w → E = "java/lang/IllegalArgumentException" ∨ E = "java/lang/IllegalStateException") (hM : zThrL l yX6_write wsX6_write { frames := 7, cells := 2, slots := 12, locals := 102 } D (zT g) wc [.ref b, .int x] P xp 2 12) : zWrp l yL_write wsL_write { frames := 8, cells := 2, slots := 12, locals := 124 } D (zT g) ((o, .inl (g.2.2.2, 1, .inr (.inl f))) :: wc) [.ref b, .int x, .ref o] (wPost g o f P xp ["java/lang/IllegalArgumentException", "java/lang/IllegalStateException"]) 2 12 := by
  refine zWrp_of (cc := cL_write) (maxL := 4) (ret := (some .int)) (own := RL) (hh := [(0, 9, 12, 15), (0, 9, 15, 17)]) [(0, .ref b), (1, .int x), (2, .ref o)] (by decide) rfl rfl rfl (Nat.le_of_ble_eq_true rfl) ?_
  intro X A hAe hl B hr htab hLF
  refine z_aload_n B 2 dL_write_0 rfl rfl ?_
  refine z_iconst (v := nI 0) B dL_write_1 (by decide) ?_
  refine z_aload_n B 0 dL_write_2 rfl rfl ?_
  refine z_iload_n B 1 dL_write_3 rfl rfl ?_
  refine z_w (w' := [(o, .inl (g.2.2.2, 1, .inr (.inl f)))] ++ wc) rfl ?_
  refine z_callC (As := [.int x]) (st := [.int (nI 0), .ref o]) (C := RX6) (T := TX6) (N := 6) (ci := 6) (l := l) B hLF hl hM gL_write_X6_write rfl ⟨rfl, rfl⟩ nm_X6_write ⟨by decide, by decide⟩ 0 hr0 rfl rfl (Nat.le_of_ble_eq_true rfl) dL_write_4 rfl rfl (by decide) (by decide) (fun E w1 hx => ?_) (fun r w1 hp => ?_)
  · rcases hE E w1 hx with rfl | rfl
    · refine z_catch B hLF htab (by decide) [] ⟨0, 9, 12, 15⟩ [⟨0, 9, 15, 17⟩] rfl (fun _ h => absurd h List.not_mem_nil) (by decide) (by decide) (List.mem_of_getElem? (i := 1) rfl) (fun q => ?_)
      refine z_astore_n (lv1 := [(3, .ref q), (0, .ref b), (1, .int x), (2, .ref o)]) B dL_write_12 rfl (by decide) rfl ?_
      refine z_iconst (v := nI 1) B dL_write_13 (by decide) ?_
      exact z_mret B hAe hr dL_write_14 rfl (by decide) (by decide) (Or.inr ⟨_, w1, 0, rfl, rfl, rfl, hx⟩)
    · refine z_catch B hLF htab (by decide) [⟨0, 9, 12, 15⟩] ⟨0, 9, 15, 17⟩ [] rfl (List.forall_mem_cons.mpr ⟨⟨by decide, "java/lang/IllegalArgumentException", by decide, List.mem_of_getElem? (i := 1) rfl, by decide⟩, (fun _ h => absurd h List.not_mem_nil)⟩) (by decide) (by decide) (List.mem_of_getElem? (i := 2) rfl) (fun q => ?_)
      refine z_astore_n (lv1 := [(3, .ref q), (0, .ref b), (1, .int x), (2, .ref o)]) B dL_write_15 rfl (by decide) rfl ?_
      refine z_iconst (v := nI 2) B dL_write_16 (by decide) ?_
      exact z_mret B hAe hr dL_write_17 rfl (by decide) (by decide) (Or.inr ⟨_, w1, 1, rfl, rfl, rfl, hx⟩)
  · refine z_i2l B dL_write_7 ?_
    refine z_last (i := 0) (w' := (o, .inl (g.2.2.2, 1, .inr (.inl (vp_updL f 0 r.toInt64)))) :: w1) B 0 3 rfl rfl (by decide) (by decide) dL_write_8 rfl ?_
    refine z_goto B 18 dL_write_9 (by decide) ?_
    refine z_iconst (v := nI 0) B dL_write_18 (by decide) ?_
    exact z_mret B hAe hr dL_write_19 rfl (by decide) (by decide) (Or.inl ⟨rfl, r, w1, rfl, hp⟩)
set_option maxHeartbeats 4000000 in
set_option maxRecDepth 100000 in
theorem wr_reverse (l : Launch) (D : va_G) (g : zG) (o b : Nat) (f : Nat → Int64) (wc : va_W) (fs : List Value) (hr0 : wc[0]? = some (b, .inr (6, fs))) (x : Int32) (P : Int32 → va_W → Prop) (xp : String → va_W → Prop) (hE : ∀ E w, xp E w → E = "java/lang/IndexOutOfBoundsException" ∨ E = "java/lang/IllegalStateException") (hM : zThrL l yX6_reverse wsX6_reverse { frames := 7, cells := 2, slots := 12, locals := 103 } D (zT g) wc [.ref b, .int x] P xp 2 12) : zWrp l yL_reverse wsL_reverse { frames := 8, cells := 2, slots := 12, locals := 124 } D (zT g) ((o, .inl (g.2.2.2, 1, .inr (.inl f))) :: wc) [.ref b, .int x, .ref o] (wPost g o f P xp ["java/lang/IndexOutOfBoundsException", "java/lang/IllegalStateException"]) 2 12 := by
  refine zWrp_of (cc := cL_reverse) (maxL := 4) (ret := (some .int)) (own := RL) (hh := [(0, 9, 12, 13), (0, 9, 15, 17)]) [(0, .ref b), (1, .int x), (2, .ref o)] (by decide) rfl rfl rfl (Nat.le_of_ble_eq_true rfl) ?_
  intro X A hAe hl B hr htab hLF
  refine z_aload_n B 2 dL_reverse_0 rfl rfl ?_
  refine z_iconst (v := nI 0) B dL_reverse_1 (by decide) ?_
  refine z_aload_n B 0 dL_reverse_2 rfl rfl ?_
  refine z_iload_n B 1 dL_reverse_3 rfl rfl ?_
  refine z_w (w' := [(o, .inl (g.2.2.2, 1, .inr (.inl f)))] ++ wc) rfl ?_
  refine z_callC (As := [.int x]) (st := [.int (nI 0), .ref o]) (C := RX6) (T := TX6) (N := 6) (ci := 6) (l := l) B hLF hl hM gL_reverse_X6_reverse rfl ⟨rfl, rfl⟩ nm_X6_reverse ⟨by decide, by decide⟩ 0 hr0 rfl rfl (Nat.le_of_ble_eq_true rfl) dL_reverse_4 rfl rfl (by decide) (by decide) (fun E w1 hx => ?_) (fun r w1 hp => ?_)
  · rcases hE E w1 hx with rfl | rfl
    · refine z_catch B hLF htab (by decide) [] ⟨0, 9, 12, 13⟩ [⟨0, 9, 15, 17⟩] rfl (fun _ h => absurd h List.not_mem_nil) (by decide) (by decide) (List.mem_of_getElem? (i := 1) rfl) (fun q => ?_)
      refine z_astore_n (lv1 := [(3, .ref q), (0, .ref b), (1, .int x), (2, .ref o)]) B dL_reverse_12 rfl (by decide) rfl ?_
      refine z_iconst (v := nI 1) B dL_reverse_13 (by decide) ?_
      exact z_mret B hAe hr dL_reverse_14 rfl (by decide) (by decide) (Or.inr ⟨_, w1, 0, rfl, rfl, rfl, hx⟩)
    · refine z_catch B hLF htab (by decide) [⟨0, 9, 12, 13⟩] ⟨0, 9, 15, 17⟩ [] rfl (List.forall_mem_cons.mpr ⟨⟨by decide, "java/lang/IndexOutOfBoundsException", by decide, List.mem_of_getElem? (i := 1) rfl, by decide⟩, (fun _ h => absurd h List.not_mem_nil)⟩) (by decide) (by decide) (List.mem_of_getElem? (i := 2) rfl) (fun q => ?_)
      refine z_astore_n (lv1 := [(3, .ref q), (0, .ref b), (1, .int x), (2, .ref o)]) B dL_reverse_15 rfl (by decide) rfl ?_
      refine z_iconst (v := nI 2) B dL_reverse_16 (by decide) ?_
      exact z_mret B hAe hr dL_reverse_17 rfl (by decide) (by decide) (Or.inr ⟨_, w1, 1, rfl, rfl, rfl, hx⟩)
  · refine z_i2l B dL_reverse_7 ?_
    refine z_last (i := 0) (w' := (o, .inl (g.2.2.2, 1, .inr (.inl (vp_updL f 0 r.toInt64)))) :: w1) B 0 3 rfl rfl (by decide) (by decide) dL_reverse_8 rfl ?_
    refine z_goto B 18 dL_reverse_9 (by decide) ?_
    refine z_iconst (v := nI 0) B dL_reverse_18 (by decide) ?_
    exact z_mret B hAe hr dL_reverse_19 rfl (by decide) (by decide) (Or.inl ⟨rfl, r, w1, rfl, hp⟩)
set_option maxHeartbeats 4000000 in
set_option maxRecDepth 100000 in
theorem wr_pass (l : Launch) (D : va_G) (g : zG) (o b : Nat) (f : Nat → Int64) (wc : va_W) (fs : List Value) (hr0 : wc[0]? = some (b, .inr (6, fs))) (x : Int32) (P : Int32 → va_W → Prop) (xp : String → va_W → Prop) (hE : ∀ E w, xp E w → E = "java/lang/IllegalArgumentException" ∨ E = "java/lang/IllegalStateException") (hM : zThrL l yX6_pass wsX6_pass { frames := 6, cells := 1, slots := 6, locals := 82 } D (zT g) wc [.ref b, .int x] P xp 1 6) : zWrp l yL_pass wsL_pass { frames := 7, cells := 1, slots := 6, locals := 103 } D (zT g) ((o, .inl (g.2.2.2, 1, .inr (.inl f))) :: wc) [.ref b, .int x, .ref o] (wPost g o f P xp ["java/lang/IllegalArgumentException", "java/lang/IllegalStateException"]) 1 6 := by
  refine zWrp_of (cc := cL_pass) (maxL := 4) (ret := (some .int)) (own := RL) (hh := [(0, 9, 12, 15), (0, 9, 15, 17)]) [(0, .ref b), (1, .int x), (2, .ref o)] (by decide) rfl rfl rfl (Nat.le_of_ble_eq_true rfl) ?_
  intro X A hAe hl B hr htab hLF
  refine z_aload_n B 2 dL_pass_0 rfl rfl ?_
  refine z_iconst (v := nI 0) B dL_pass_1 (by decide) ?_
  refine z_aload_n B 0 dL_pass_2 rfl rfl ?_
  refine z_iload_n B 1 dL_pass_3 rfl rfl ?_
  refine z_w (w' := [(o, .inl (g.2.2.2, 1, .inr (.inl f)))] ++ wc) rfl ?_
  refine z_callC (As := [.int x]) (st := [.int (nI 0), .ref o]) (C := RX6) (T := TX6) (N := 6) (ci := 6) (l := l) B hLF hl hM gL_pass_X6_pass rfl ⟨rfl, rfl⟩ nm_X6_pass ⟨by decide, by decide⟩ 0 hr0 rfl rfl (Nat.le_of_ble_eq_true rfl) dL_pass_4 rfl rfl (by decide) (by decide) (fun E w1 hx => ?_) (fun r w1 hp => ?_)
  · rcases hE E w1 hx with rfl | rfl
    · refine z_catch B hLF htab (by decide) [] ⟨0, 9, 12, 15⟩ [⟨0, 9, 15, 17⟩] rfl (fun _ h => absurd h List.not_mem_nil) (by decide) (by decide) (List.mem_of_getElem? (i := 1) rfl) (fun q => ?_)
      refine z_astore_n (lv1 := [(3, .ref q), (0, .ref b), (1, .int x), (2, .ref o)]) B dL_pass_12 rfl (by decide) rfl ?_
      refine z_iconst (v := nI 1) B dL_pass_13 (by decide) ?_
      exact z_mret B hAe hr dL_pass_14 rfl (by decide) (by decide) (Or.inr ⟨_, w1, 0, rfl, rfl, rfl, hx⟩)
    · refine z_catch B hLF htab (by decide) [⟨0, 9, 12, 15⟩] ⟨0, 9, 15, 17⟩ [] rfl (List.forall_mem_cons.mpr ⟨⟨by decide, "java/lang/IllegalArgumentException", by decide, List.mem_of_getElem? (i := 1) rfl, by decide⟩, (fun _ h => absurd h List.not_mem_nil)⟩) (by decide) (by decide) (List.mem_of_getElem? (i := 2) rfl) (fun q => ?_)
      refine z_astore_n (lv1 := [(3, .ref q), (0, .ref b), (1, .int x), (2, .ref o)]) B dL_pass_15 rfl (by decide) rfl ?_
      refine z_iconst (v := nI 2) B dL_pass_16 (by decide) ?_
      exact z_mret B hAe hr dL_pass_17 rfl (by decide) (by decide) (Or.inr ⟨_, w1, 1, rfl, rfl, rfl, hx⟩)
  · refine z_i2l B dL_pass_7 ?_
    refine z_last (i := 0) (w' := (o, .inl (g.2.2.2, 1, .inr (.inl (vp_updL f 0 r.toInt64)))) :: w1) B 0 3 rfl rfl (by decide) (by decide) dL_pass_8 rfl ?_
    refine z_goto B 18 dL_pass_9 (by decide) ?_
    refine z_iconst (v := nI 0) B dL_pass_18 (by decide) ?_
    exact z_mret B hAe hr dL_pass_19 rfl (by decide) (by decide) (Or.inl ⟨rfl, r, w1, rfl, hp⟩)
set_option maxHeartbeats 4000000 in
set_option maxRecDepth 100000 in
theorem wr_burn (l : Launch) (D : va_G) (g : zG) (o b : Nat) (f : Nat → Int64) (wc : va_W) (fs : List Value) (hr0 : wc[0]? = some (b, .inr (6, fs))) (x : Int32) (y : Int32) (P : Int32 → va_W → Prop) (xp : String → va_W → Prop) (hE : ∀ E w, xp E w → E = "java/lang/IndexOutOfBoundsException" ∨ E = "java/lang/IllegalArgumentException") (hM : zThrL l yX6_burn wsX6_burn { frames := 7, cells := 3, slots := 18, locals := 103 } D (zT g) wc [.ref b, .int x, .int y] P xp 3 18) : zWrp l yL_burn wsL_burn { frames := 8, cells := 3, slots := 18, locals := 127 } D (zT g) ((o, .inl (g.2.2.2, 1, .inr (.inl f))) :: wc) [.ref b, .int x, .int y, .ref o] (wPost g o f P xp ["java/lang/IndexOutOfBoundsException", "java/lang/IllegalArgumentException"]) 3 18 := by
  refine zWrp_of (cc := cL_burn) (maxL := 5) (ret := (some .int)) (own := RL) (hh := [(0, 10, 13, 13), (0, 10, 17, 15)]) [(0, .ref b), (1, .int x), (2, .int y), (3, .ref o)] (by decide) rfl rfl rfl (Nat.le_of_ble_eq_true rfl) ?_
  intro X A hAe hl B hr htab hLF
  refine z_aload_n B 3 dL_burn_0 rfl rfl ?_
  refine z_iconst (v := nI 0) B dL_burn_1 (by decide) ?_
  refine z_aload_n B 0 dL_burn_2 rfl rfl ?_
  refine z_iload_n B 1 dL_burn_3 rfl rfl ?_
  refine z_iload_n B 2 dL_burn_4 rfl rfl ?_
  refine z_w (w' := [(o, .inl (g.2.2.2, 1, .inr (.inl f)))] ++ wc) rfl ?_
  refine z_callC (As := [.int x, .int y]) (st := [.int (nI 0), .ref o]) (C := RX6) (T := TX6) (N := 6) (ci := 6) (l := l) B hLF hl hM gL_burn_X6_burn rfl ⟨rfl, rfl⟩ nm_X6_burn ⟨by decide, by decide⟩ 0 hr0 rfl rfl (Nat.le_of_ble_eq_true rfl) dL_burn_5 rfl rfl (by decide) (by decide) (fun E w1 hx => ?_) (fun r w1 hp => ?_)
  · rcases hE E w1 hx with rfl | rfl
    · refine z_catch B hLF htab (by decide) [] ⟨0, 10, 13, 13⟩ [⟨0, 10, 17, 15⟩] rfl (fun _ h => absurd h List.not_mem_nil) (by decide) (by decide) (List.mem_of_getElem? (i := 1) rfl) (fun q => ?_)
      refine z_astore (lv1 := [(4, .ref q), (0, .ref b), (1, .int x), (2, .int y), (3, .ref o)]) B dL_burn_13 (by decide) rfl ?_
      refine z_iconst (v := nI 1) B dL_burn_15 (by decide) ?_
      exact z_mret B hAe hr dL_burn_16 rfl (by decide) (by decide) (Or.inr ⟨_, w1, 0, rfl, rfl, rfl, hx⟩)
    · refine z_catch B hLF htab (by decide) [⟨0, 10, 13, 13⟩] ⟨0, 10, 17, 15⟩ [] rfl (List.forall_mem_cons.mpr ⟨⟨by decide, "java/lang/IndexOutOfBoundsException", by decide, List.mem_of_getElem? (i := 1) rfl, by decide⟩, (fun _ h => absurd h List.not_mem_nil)⟩) (by decide) (by decide) (List.mem_of_getElem? (i := 2) rfl) (fun q => ?_)
      refine z_astore (lv1 := [(4, .ref q), (0, .ref b), (1, .int x), (2, .int y), (3, .ref o)]) B dL_burn_17 (by decide) rfl ?_
      refine z_iconst (v := nI 2) B dL_burn_19 (by decide) ?_
      exact z_mret B hAe hr dL_burn_20 rfl (by decide) (by decide) (Or.inr ⟨_, w1, 1, rfl, rfl, rfl, hx⟩)
  · refine z_i2l B dL_burn_8 ?_
    refine z_last (i := 0) (w' := (o, .inl (g.2.2.2, 1, .inr (.inl (vp_updL f 0 r.toInt64)))) :: w1) B 0 3 rfl rfl (by decide) (by decide) dL_burn_9 rfl ?_
    refine z_goto B 21 dL_burn_10 (by decide) ?_
    refine z_iconst (v := nI 0) B dL_burn_21 (by decide) ?_
    exact z_mret B hAe hr dL_burn_22 rfl (by decide) (by decide) (Or.inl ⟨rfl, r, w1, rfl, hp⟩)
set_option maxHeartbeats 4000000 in
set_option maxRecDepth 100000 in
theorem wr_alter (l : Launch) (D : va_G) (g : zG) (o b : Nat) (f : Nat → Int64) (wc : va_W) (fs : List Value) (hr0 : wc[0]? = some (b, .inr (6, fs))) (x : Int32) (y : Int32) (z : Int32) (P : Int32 → va_W → Prop) (xp : String → va_W → Prop) (hE : ∀ E w, xp E w → E = "java/lang/IndexOutOfBoundsException" ∨ E = "java/lang/IllegalArgumentException" ∨ E = "java/lang/IllegalStateException") (hM : zThrL l yX6_alter wsX6_alter { frames := 7, cells := 3, slots := 18, locals := 103 } D (zT g) wc [.ref b, .int x, .int y, .int z] P xp 3 18) : zWrp l yL_alter wsL_alter { frames := 8, cells := 3, slots := 18, locals := 126 } D (zT g) ((o, .inl (g.2.2.2, 1, .inr (.inl f))) :: wc) [.ref b, .int x, .int y, .int z, .ref o] (wPost g o f P xp ["java/lang/IndexOutOfBoundsException", "java/lang/IllegalArgumentException", "java/lang/IllegalStateException"]) 3 18 := by
  refine zWrp_of (cc := cL_alter) (maxL := 6) (ret := (some .int)) (own := RL) (hh := [(0, 12, 15, 13), (0, 12, 19, 15), (0, 12, 23, 17)]) [(0, .ref b), (1, .int x), (2, .int y), (3, .int z), (4, .ref o)] (by decide) rfl rfl rfl (Nat.le_of_ble_eq_true rfl) ?_
  intro X A hAe hl B hr htab hLF
  refine z_aload B 4 dL_alter_0 rfl ?_
  refine z_iconst (v := nI 0) B dL_alter_2 (by decide) ?_
  refine z_aload_n B 0 dL_alter_3 rfl rfl ?_
  refine z_iload_n B 1 dL_alter_4 rfl rfl ?_
  refine z_iload_n B 2 dL_alter_5 rfl rfl ?_
  refine z_iload_n B 3 dL_alter_6 rfl rfl ?_
  refine z_w (w' := [(o, .inl (g.2.2.2, 1, .inr (.inl f)))] ++ wc) rfl ?_
  refine z_callC (As := [.int x, .int y, .int z]) (st := [.int (nI 0), .ref o]) (C := RX6) (T := TX6) (N := 6) (ci := 6) (l := l) B hLF hl hM gL_alter_X6_alter rfl ⟨rfl, rfl⟩ nm_X6_alter ⟨by decide, by decide⟩ 0 hr0 rfl rfl (Nat.le_of_ble_eq_true rfl) dL_alter_7 rfl rfl (by decide) (by decide) (fun E w1 hx => ?_) (fun r w1 hp => ?_)
  · rcases hE E w1 hx with rfl | rfl | rfl
    · refine z_catch B hLF htab (by decide) [] ⟨0, 12, 15, 13⟩ [⟨0, 12, 19, 15⟩, ⟨0, 12, 23, 17⟩] rfl (fun _ h => absurd h List.not_mem_nil) (by decide) (by decide) (List.mem_of_getElem? (i := 1) rfl) (fun q => ?_)
      refine z_astore (lv1 := [(5, .ref q), (0, .ref b), (1, .int x), (2, .int y), (3, .int z), (4, .ref o)]) B dL_alter_15 (by decide) rfl ?_
      refine z_iconst (v := nI 1) B dL_alter_17 (by decide) ?_
      exact z_mret B hAe hr dL_alter_18 rfl (by decide) (by decide) (Or.inr ⟨_, w1, 0, rfl, rfl, rfl, hx⟩)
    · refine z_catch B hLF htab (by decide) [⟨0, 12, 15, 13⟩] ⟨0, 12, 19, 15⟩ [⟨0, 12, 23, 17⟩] rfl (List.forall_mem_cons.mpr ⟨⟨by decide, "java/lang/IndexOutOfBoundsException", by decide, List.mem_of_getElem? (i := 1) rfl, by decide⟩, (fun _ h => absurd h List.not_mem_nil)⟩) (by decide) (by decide) (List.mem_of_getElem? (i := 2) rfl) (fun q => ?_)
      refine z_astore (lv1 := [(5, .ref q), (0, .ref b), (1, .int x), (2, .int y), (3, .int z), (4, .ref o)]) B dL_alter_19 (by decide) rfl ?_
      refine z_iconst (v := nI 2) B dL_alter_21 (by decide) ?_
      exact z_mret B hAe hr dL_alter_22 rfl (by decide) (by decide) (Or.inr ⟨_, w1, 1, rfl, rfl, rfl, hx⟩)
    · refine z_catch B hLF htab (by decide) [⟨0, 12, 15, 13⟩, ⟨0, 12, 19, 15⟩] ⟨0, 12, 23, 17⟩ [] rfl (List.forall_mem_cons.mpr ⟨⟨by decide, "java/lang/IndexOutOfBoundsException", by decide, List.mem_of_getElem? (i := 1) rfl, by decide⟩, (List.forall_mem_cons.mpr ⟨⟨by decide, "java/lang/IllegalArgumentException", by decide, List.mem_of_getElem? (i := 2) rfl, by decide⟩, (fun _ h => absurd h List.not_mem_nil)⟩)⟩) (by decide) (by decide) (List.mem_of_getElem? (i := 3) rfl) (fun q => ?_)
      refine z_astore (lv1 := [(5, .ref q), (0, .ref b), (1, .int x), (2, .int y), (3, .int z), (4, .ref o)]) B dL_alter_23 (by decide) rfl ?_
      refine z_iconst (v := nI 3) B dL_alter_25 (by decide) ?_
      exact z_mret B hAe hr dL_alter_26 rfl (by decide) (by decide) (Or.inr ⟨_, w1, 2, rfl, rfl, rfl, hx⟩)
  · refine z_i2l B dL_alter_10 ?_
    refine z_last (i := 0) (w' := (o, .inl (g.2.2.2, 1, .inr (.inl (vp_updL f 0 r.toInt64)))) :: w1) B 0 3 rfl rfl (by decide) (by decide) dL_alter_11 rfl ?_
    refine z_goto B 27 dL_alter_12 (by decide) ?_
    refine z_iconst (v := nI 0) B dL_alter_27 (by decide) ?_
    exact z_mret B hAe hr dL_alter_28 rfl (by decide) (by decide) (Or.inl ⟨rfl, r, w1, rfl, hp⟩)
set_option maxHeartbeats 4000000 in
set_option maxRecDepth 100000 in
theorem wr_copy (l : Launch) (D : va_G) (g : zG) (o b : Nat) (f : Nat → Int64) (wc : va_W) (fs : List Value) (hr0 : wc[0]? = some (b, .inr (6, fs))) (P : Int32 → va_W → Prop) (xp : String → va_W → Prop) (hE : ∀ E w, xp E w → E = "java/lang/IllegalStateException") (hM : zThrL l yX6_copy wsX6_copy { frames := 7, cells := 5, slots := 413, locals := 110 } D (zT g) wc [.ref b] P xp 5 413) : zWrp l yL_copy wsL_copy { frames := 8, cells := 5, slots := 413, locals := 130 } D (zT g) ((o, .inl (g.2.2.2, 1, .inr (.inl f))) :: wc) [.ref b, .ref o] (wPost g o f P xp ["java/lang/IllegalStateException"]) 5 413 := by
  refine zWrp_of (cc := cL_copy) (maxL := 3) (ret := (some .int)) (own := RL) (hh := [(0, 8, 11, 17)]) [(0, .ref b), (1, .ref o)] (by decide) rfl rfl rfl (Nat.le_of_ble_eq_true rfl) ?_
  intro X A hAe hl B hr htab hLF
  refine z_aload_n B 1 dL_copy_0 rfl rfl ?_
  refine z_iconst (v := nI 0) B dL_copy_1 (by decide) ?_
  refine z_aload_n B 0 dL_copy_2 rfl rfl ?_
  refine z_w (w' := [(o, .inl (g.2.2.2, 1, .inr (.inl f)))] ++ wc) rfl ?_
  refine z_callC (As := []) (st := [.int (nI 0), .ref o]) (C := RX6) (T := TX6) (N := 6) (ci := 6) (l := l) B hLF hl hM gL_copy_X6_copy rfl ⟨rfl, rfl⟩ nm_X6_copy ⟨by decide, by decide⟩ 0 hr0 rfl rfl (Nat.le_of_ble_eq_true rfl) dL_copy_3 rfl rfl (by decide) (by decide) (fun E w1 hx => ?_) (fun r w1 hp => ?_)
  · rcases hE E w1 hx with rfl
    · refine z_catch B hLF htab (by decide) [] ⟨0, 8, 11, 17⟩ [] rfl (fun _ h => absurd h List.not_mem_nil) (by decide) (by decide) (List.mem_of_getElem? (i := 1) rfl) (fun q => ?_)
      refine z_astore_n (lv1 := [(2, .ref q), (0, .ref b), (1, .ref o)]) B dL_copy_11 rfl (by decide) rfl ?_
      refine z_iconst (v := nI 1) B dL_copy_12 (by decide) ?_
      exact z_mret B hAe hr dL_copy_13 rfl (by decide) (by decide) (Or.inr ⟨_, w1, 0, rfl, rfl, rfl, hx⟩)
  · refine z_i2l B dL_copy_6 ?_
    refine z_last (i := 0) (w' := (o, .inl (g.2.2.2, 1, .inr (.inl (vp_updL f 0 r.toInt64)))) :: w1) B 0 3 rfl rfl (by decide) (by decide) dL_copy_7 rfl ?_
    refine z_goto B 14 dL_copy_8 (by decide) ?_
    refine z_iconst (v := nI 0) B dL_copy_14 (by decide) ?_
    exact z_mret B hAe hr dL_copy_15 rfl (by decide) (by decide) (Or.inl ⟨rfl, r, w1, rfl, hp⟩)
set_option maxHeartbeats 4000000 in
set_option maxRecDepth 100000 in
theorem wr_copyFrom (l : Launch) (D : va_G) (g : zG) (o b : Nat) (f : Nat → Int64) (wc : va_W) (fs : List Value) (hr0 : wc[0]? = some (b, .inr (6, fs))) (x : Int32) (P : Int32 → va_W → Prop) (xp : String → va_W → Prop) (hE : ∀ E w, xp E w → E = "java/lang/IndexOutOfBoundsException" ∨ E = "java/lang/IllegalStateException") (hM : zThrL l yX6_copyFrom wsX6_copyFrom { frames := 7, cells := 6, slots := 419, locals := 110 } D (zT g) wc [.ref b, .int x] P xp 6 419) : zWrp l yL_copyFrom wsL_copyFrom { frames := 8, cells := 6, slots := 419, locals := 132 } D (zT g) ((o, .inl (g.2.2.2, 1, .inr (.inl f))) :: wc) [.ref b, .int x, .ref o] (wPost g o f P xp ["java/lang/IndexOutOfBoundsException", "java/lang/IllegalStateException"]) 6 419 := by
  refine zWrp_of (cc := cL_copyFrom) (maxL := 4) (ret := (some .int)) (own := RL) (hh := [(0, 9, 12, 13), (0, 9, 15, 17)]) [(0, .ref b), (1, .int x), (2, .ref o)] (by decide) rfl rfl rfl (Nat.le_of_ble_eq_true rfl) ?_
  intro X A hAe hl B hr htab hLF
  refine z_aload_n B 2 dL_copyFrom_0 rfl rfl ?_
  refine z_iconst (v := nI 0) B dL_copyFrom_1 (by decide) ?_
  refine z_aload_n B 0 dL_copyFrom_2 rfl rfl ?_
  refine z_iload_n B 1 dL_copyFrom_3 rfl rfl ?_
  refine z_w (w' := [(o, .inl (g.2.2.2, 1, .inr (.inl f)))] ++ wc) rfl ?_
  refine z_callC (As := [.int x]) (st := [.int (nI 0), .ref o]) (C := RX6) (T := TX6) (N := 6) (ci := 6) (l := l) B hLF hl hM gL_copyFrom_X6_copyFrom rfl ⟨rfl, rfl⟩ nm_X6_copyFrom ⟨by decide, by decide⟩ 0 hr0 rfl rfl (Nat.le_of_ble_eq_true rfl) dL_copyFrom_4 rfl rfl (by decide) (by decide) (fun E w1 hx => ?_) (fun r w1 hp => ?_)
  · rcases hE E w1 hx with rfl | rfl
    · refine z_catch B hLF htab (by decide) [] ⟨0, 9, 12, 13⟩ [⟨0, 9, 15, 17⟩] rfl (fun _ h => absurd h List.not_mem_nil) (by decide) (by decide) (List.mem_of_getElem? (i := 1) rfl) (fun q => ?_)
      refine z_astore_n (lv1 := [(3, .ref q), (0, .ref b), (1, .int x), (2, .ref o)]) B dL_copyFrom_12 rfl (by decide) rfl ?_
      refine z_iconst (v := nI 1) B dL_copyFrom_13 (by decide) ?_
      exact z_mret B hAe hr dL_copyFrom_14 rfl (by decide) (by decide) (Or.inr ⟨_, w1, 0, rfl, rfl, rfl, hx⟩)
    · refine z_catch B hLF htab (by decide) [⟨0, 9, 12, 13⟩] ⟨0, 9, 15, 17⟩ [] rfl (List.forall_mem_cons.mpr ⟨⟨by decide, "java/lang/IndexOutOfBoundsException", by decide, List.mem_of_getElem? (i := 1) rfl, by decide⟩, (fun _ h => absurd h List.not_mem_nil)⟩) (by decide) (by decide) (List.mem_of_getElem? (i := 2) rfl) (fun q => ?_)
      refine z_astore_n (lv1 := [(3, .ref q), (0, .ref b), (1, .int x), (2, .ref o)]) B dL_copyFrom_15 rfl (by decide) rfl ?_
      refine z_iconst (v := nI 2) B dL_copyFrom_16 (by decide) ?_
      exact z_mret B hAe hr dL_copyFrom_17 rfl (by decide) (by decide) (Or.inr ⟨_, w1, 1, rfl, rfl, rfl, hx⟩)
  · refine z_i2l B dL_copyFrom_7 ?_
    refine z_last (i := 0) (w' := (o, .inl (g.2.2.2, 1, .inr (.inl (vp_updL f 0 r.toInt64)))) :: w1) B 0 3 rfl rfl (by decide) (by decide) dL_copyFrom_8 rfl ?_
    refine z_goto B 18 dL_copyFrom_9 (by decide) ?_
    refine z_iconst (v := nI 0) B dL_copyFrom_18 (by decide) ?_
    exact z_mret B hAe hr dL_copyFrom_19 rfl (by decide) (by decide) (Or.inl ⟨rfl, r, w1, rfl, hp⟩)
set_option maxHeartbeats 4000000 in
set_option maxRecDepth 100000 in
theorem wr_carry (l : Launch) (D : va_G) (g : zG) (o b : Nat) (f : Nat → Int64) (wc : va_W) (fs : List Value) (hr0 : wc[0]? = some (b, .inr (6, fs))) (x : Int32) (y : Int32) (P : Int32 → va_W → Prop) (xp : String → va_W → Prop) (hE : ∀ E w, xp E w → E = "java/lang/IndexOutOfBoundsException") (hM : zThrL l yX6_carry wsX6_carry { frames := 7, cells := 1, slots := 6, locals := 104 } D (zT g) wc [.ref b, .int x, .int y] P xp 1 6) : zWrp l yL_carry wsL_carry { frames := 8, cells := 1, slots := 6, locals := 127 } D (zT g) ((o, .inl (g.2.2.2, 1, .inr (.inl f))) :: wc) [.ref b, .int x, .int y, .ref o] (wPost g o f P xp ["java/lang/IndexOutOfBoundsException"]) 1 6 := by
  refine zWrp_of (cc := cL_carry) (maxL := 5) (ret := (some .int)) (own := RL) (hh := [(0, 10, 13, 13)]) [(0, .ref b), (1, .int x), (2, .int y), (3, .ref o)] (by decide) rfl rfl rfl (Nat.le_of_ble_eq_true rfl) ?_
  intro X A hAe hl B hr htab hLF
  refine z_aload_n B 3 dL_carry_0 rfl rfl ?_
  refine z_iconst (v := nI 0) B dL_carry_1 (by decide) ?_
  refine z_aload_n B 0 dL_carry_2 rfl rfl ?_
  refine z_iload_n B 1 dL_carry_3 rfl rfl ?_
  refine z_iload_n B 2 dL_carry_4 rfl rfl ?_
  refine z_w (w' := [(o, .inl (g.2.2.2, 1, .inr (.inl f)))] ++ wc) rfl ?_
  refine z_callC (As := [.int x, .int y]) (st := [.int (nI 0), .ref o]) (C := RX6) (T := TX6) (N := 6) (ci := 6) (l := l) B hLF hl hM gL_carry_X6_carry rfl ⟨rfl, rfl⟩ nm_X6_carry ⟨by decide, by decide⟩ 0 hr0 rfl rfl (Nat.le_of_ble_eq_true rfl) dL_carry_5 rfl rfl (by decide) (by decide) (fun E w1 hx => ?_) (fun r w1 hp => ?_)
  · rcases hE E w1 hx with rfl
    · refine z_catch B hLF htab (by decide) [] ⟨0, 10, 13, 13⟩ [] rfl (fun _ h => absurd h List.not_mem_nil) (by decide) (by decide) (List.mem_of_getElem? (i := 1) rfl) (fun q => ?_)
      refine z_astore (lv1 := [(4, .ref q), (0, .ref b), (1, .int x), (2, .int y), (3, .ref o)]) B dL_carry_13 (by decide) rfl ?_
      refine z_iconst (v := nI 1) B dL_carry_15 (by decide) ?_
      exact z_mret B hAe hr dL_carry_16 rfl (by decide) (by decide) (Or.inr ⟨_, w1, 0, rfl, rfl, rfl, hx⟩)
  · refine z_i2l B dL_carry_8 ?_
    refine z_last (i := 0) (w' := (o, .inl (g.2.2.2, 1, .inr (.inl (vp_updL f 0 r.toInt64)))) :: w1) B 0 3 rfl rfl (by decide) (by decide) dL_carry_9 rfl ?_
    refine z_goto B 17 dL_carry_10 (by decide) ?_
    refine z_iconst (v := nI 0) B dL_carry_17 (by decide) ?_
    exact z_mret B hAe hr dL_carry_18 rfl (by decide) (by decide) (Or.inl ⟨rfl, r, w1, rfl, hp⟩)
set_option maxHeartbeats 4000000 in
set_option maxRecDepth 100000 in
theorem wr_rot (l : Launch) (D : va_G) (g : zG) (o b : Nat) (f : Nat → Int64) (wc : va_W) (fs : List Value) (hr0 : wc[0]? = some (b, .inr (6, fs))) (x : Int32) (y : Int32) (P : Int32 → va_W → Prop) (xp : String → va_W → Prop) (hE : ∀ E w, xp E w → E = "java/lang/IndexOutOfBoundsException") (hB : ∀ r w, P r w → r = 0 ∨ r = 1) (hM : zThrL l yX6_rot wsX6_rot { frames := 7, cells := 2, slots := 12, locals := 104 } D (zT g) wc [.ref b, .int x, .int y] P xp 2 12) : zWrp l yL_rot wsL_rot { frames := 8, cells := 2, slots := 12, locals := 127 } D (zT g) ((o, .inl (g.2.2.2, 1, .inr (.inl f))) :: wc) [.ref b, .int x, .int y, .ref o] (wPost g o f P xp ["java/lang/IndexOutOfBoundsException"]) 2 12 := by
  refine zWrp_of (cc := cL_rot) (maxL := 5) (ret := (some .int)) (own := RL) (hh := [(0, 17, 20, 13)]) [(0, .ref b), (1, .int x), (2, .int y), (3, .ref o)] (by decide) rfl rfl rfl (Nat.le_of_ble_eq_true rfl) ?_
  intro X A hAe hl B hr htab hLF
  refine z_aload_n B 3 dL_rot_0 rfl rfl ?_
  refine z_iconst (v := nI 0) B dL_rot_1 (by decide) ?_
  refine z_aload_n B 0 dL_rot_2 rfl rfl ?_
  refine z_iload_n B 1 dL_rot_3 rfl rfl ?_
  refine z_iload_n B 2 dL_rot_4 rfl rfl ?_
  refine z_w (w' := [(o, .inl (g.2.2.2, 1, .inr (.inl f)))] ++ wc) rfl ?_
  refine z_callC (As := [.int x, .int y]) (st := [.int (nI 0), .ref o]) (C := RX6) (T := TX6) (N := 6) (ci := 6) (l := l) B hLF hl hM gL_rot_X6_rot rfl ⟨rfl, rfl⟩ nm_X6_rot ⟨by decide, by decide⟩ 0 hr0 rfl rfl (Nat.le_of_ble_eq_true rfl) dL_rot_5 rfl rfl (by decide) (by decide) (fun E w1 hx => ?_) (fun r w1 hp => ?_)
  · rcases hE E w1 hx with rfl
    · refine z_catch B hLF htab (by decide) [] ⟨0, 17, 20, 13⟩ [] rfl (fun _ h => absurd h List.not_mem_nil) (by decide) (by decide) (List.mem_of_getElem? (i := 1) rfl) (fun q => ?_)
      refine z_astore (lv1 := [(4, .ref q), (0, .ref b), (1, .int x), (2, .int y), (3, .ref o)]) B dL_rot_20 (by decide) rfl ?_
      refine z_iconst (v := nI 1) B dL_rot_22 (by decide) ?_
      exact z_mret B hAe hr dL_rot_23 rfl (by decide) (by decide) (Or.inr ⟨_, w1, 0, rfl, rfl, rfl, hx⟩)
  · rcases hB r w1 hp with rfl | rfl
    · refine z_if_eq B 15 dL_rot_8 (by decide) (fun _ => ?_) (fun h => absurd rfl h)
      refine z_lconst (v := 0) B dL_rot_15 (by decide) ?_
      refine z_last (i := 0) (w' := (o, .inl (g.2.2.2, 1, .inr (.inl (vp_updL f 0 (0 : Int32).toInt64)))) :: w1) B 0 3 rfl rfl (by decide) (by decide) dL_rot_16 (by first | rfl | (rw [show (0 : Int32).toInt64 = 0 by decide]; rfl)) ?_
      refine z_goto B 24 dL_rot_17 (by decide) ?_
      refine z_iconst (v := nI 0) B dL_rot_24 (by decide) ?_
      exact z_mret B hAe hr dL_rot_25 rfl (by decide) (by decide) (Or.inl ⟨rfl, 0, w1, rfl, hp⟩)
    · refine z_if_eq B 15 dL_rot_8 (by decide) (fun h => absurd h (by decide)) (fun _ => ?_)
      refine z_lconst (v := 1) B dL_rot_11 (by decide) ?_
      refine z_goto B 16 dL_rot_12 (by decide) ?_
      refine z_last (i := 0) (w' := (o, .inl (g.2.2.2, 1, .inr (.inl (vp_updL f 0 (1 : Int32).toInt64)))) :: w1) B 0 3 rfl rfl (by decide) (by decide) dL_rot_16 (by first | rfl | (rw [show (1 : Int32).toInt64 = 1 by decide]; rfl)) ?_
      refine z_goto B 24 dL_rot_17 (by decide) ?_
      refine z_iconst (v := nI 0) B dL_rot_24 (by decide) ?_
      exact z_mret B hAe hr dL_rot_25 rfl (by decide) (by decide) (Or.inl ⟨rfl, 1, w1, rfl, hp⟩)
set_option maxHeartbeats 4000000 in
set_option maxRecDepth 100000 in
theorem wr_throwAway (l : Launch) (D : va_G) (g : zG) (o b : Nat) (f : Nat → Int64) (wc : va_W) (fs : List Value) (hr0 : wc[0]? = some (b, .inr (6, fs))) (x : Int32) (P : Int32 → va_W → Prop) (xp : String → va_W → Prop) (hE : ∀ E w, xp E w → E = "java/lang/IndexOutOfBoundsException" ∨ E = "java/lang/IllegalStateException") (hM : zThrL l yX6_throwAway wsX6_throwAway { frames := 7, cells := 2, slots := 12, locals := 104 } D (zT g) wc [.ref b, .int x] P xp 2 12) : zWrp l yL_throwAway wsL_throwAway { frames := 8, cells := 2, slots := 12, locals := 126 } D (zT g) ((o, .inl (g.2.2.2, 1, .inr (.inl f))) :: wc) [.ref b, .int x, .ref o] (wPost g o f P xp ["java/lang/IndexOutOfBoundsException", "java/lang/IllegalStateException"]) 2 12 := by
  refine zWrp_of (cc := cL_throwAway) (maxL := 4) (ret := (some .int)) (own := RL) (hh := [(0, 9, 12, 13), (0, 9, 15, 17)]) [(0, .ref b), (1, .int x), (2, .ref o)] (by decide) rfl rfl rfl (Nat.le_of_ble_eq_true rfl) ?_
  intro X A hAe hl B hr htab hLF
  refine z_aload_n B 2 dL_throwAway_0 rfl rfl ?_
  refine z_iconst (v := nI 0) B dL_throwAway_1 (by decide) ?_
  refine z_aload_n B 0 dL_throwAway_2 rfl rfl ?_
  refine z_iload_n B 1 dL_throwAway_3 rfl rfl ?_
  refine z_w (w' := [(o, .inl (g.2.2.2, 1, .inr (.inl f)))] ++ wc) rfl ?_
  refine z_callC (As := [.int x]) (st := [.int (nI 0), .ref o]) (C := RX6) (T := TX6) (N := 6) (ci := 6) (l := l) B hLF hl hM gL_throwAway_X6_throwAway rfl ⟨rfl, rfl⟩ nm_X6_throwAway ⟨by decide, by decide⟩ 0 hr0 rfl rfl (Nat.le_of_ble_eq_true rfl) dL_throwAway_4 rfl rfl (by decide) (by decide) (fun E w1 hx => ?_) (fun r w1 hp => ?_)
  · rcases hE E w1 hx with rfl | rfl
    · refine z_catch B hLF htab (by decide) [] ⟨0, 9, 12, 13⟩ [⟨0, 9, 15, 17⟩] rfl (fun _ h => absurd h List.not_mem_nil) (by decide) (by decide) (List.mem_of_getElem? (i := 1) rfl) (fun q => ?_)
      refine z_astore_n (lv1 := [(3, .ref q), (0, .ref b), (1, .int x), (2, .ref o)]) B dL_throwAway_12 rfl (by decide) rfl ?_
      refine z_iconst (v := nI 1) B dL_throwAway_13 (by decide) ?_
      exact z_mret B hAe hr dL_throwAway_14 rfl (by decide) (by decide) (Or.inr ⟨_, w1, 0, rfl, rfl, rfl, hx⟩)
    · refine z_catch B hLF htab (by decide) [⟨0, 9, 12, 13⟩] ⟨0, 9, 15, 17⟩ [] rfl (List.forall_mem_cons.mpr ⟨⟨by decide, "java/lang/IndexOutOfBoundsException", by decide, List.mem_of_getElem? (i := 1) rfl, by decide⟩, (fun _ h => absurd h List.not_mem_nil)⟩) (by decide) (by decide) (List.mem_of_getElem? (i := 2) rfl) (fun q => ?_)
      refine z_astore_n (lv1 := [(3, .ref q), (0, .ref b), (1, .int x), (2, .ref o)]) B dL_throwAway_15 rfl (by decide) rfl ?_
      refine z_iconst (v := nI 2) B dL_throwAway_16 (by decide) ?_
      exact z_mret B hAe hr dL_throwAway_17 rfl (by decide) (by decide) (Or.inr ⟨_, w1, 1, rfl, rfl, rfl, hx⟩)
  · refine z_i2l B dL_throwAway_7 ?_
    refine z_last (i := 0) (w' := (o, .inl (g.2.2.2, 1, .inr (.inl (vp_updL f 0 r.toInt64)))) :: w1) B 0 3 rfl rfl (by decide) (by decide) dL_throwAway_8 rfl ?_
    refine z_goto B 18 dL_throwAway_9 (by decide) ?_
    refine z_iconst (v := nI 0) B dL_throwAway_18 (by decide) ?_
    exact z_mret B hAe hr dL_throwAway_19 rfl (by decide) (by decide) (Or.inl ⟨rfl, r, w1, rfl, hp⟩)
set_option maxHeartbeats 4000000 in
set_option maxRecDepth 100000 in
theorem wr_restore (l : Launch) (D : va_G) (g : zG) (o b : Nat) (f : Nat → Int64) (wc : va_W) (fs : List Value) (hr0 : wc[0]? = some (b, .inr (6, fs))) (x : Int32) (P : Int32 → va_W → Prop) (xp : String → va_W → Prop) (hE : ∀ E w, xp E w → E = "java/lang/IndexOutOfBoundsException" ∨ E = "java/lang/IllegalStateException") (hM : zThrL l yX6_restore wsX6_restore { frames := 7, cells := 2, slots := 12, locals := 104 } D (zT g) wc [.ref b, .int x] P xp 2 12) : zWrp l yL_restore wsL_restore { frames := 8, cells := 2, slots := 12, locals := 128 } D (zT g) ((o, .inl (g.2.2.2, 1, .inr (.inl f))) :: wc) [.ref b, .int x, .ref o] (wPost g o f P xp ["java/lang/IndexOutOfBoundsException", "java/lang/IllegalStateException"]) 2 12 := by
  refine zWrp_of (cc := cL_restore) (maxL := 4) (ret := (some .int)) (own := RL) (hh := [(0, 9, 12, 13), (0, 9, 15, 17)]) [(0, .ref b), (1, .int x), (2, .ref o)] (by decide) rfl rfl rfl (Nat.le_of_ble_eq_true rfl) ?_
  intro X A hAe hl B hr htab hLF
  refine z_aload_n B 2 dL_restore_0 rfl rfl ?_
  refine z_iconst (v := nI 0) B dL_restore_1 (by decide) ?_
  refine z_aload_n B 0 dL_restore_2 rfl rfl ?_
  refine z_iload_n B 1 dL_restore_3 rfl rfl ?_
  refine z_w (w' := [(o, .inl (g.2.2.2, 1, .inr (.inl f)))] ++ wc) rfl ?_
  refine z_callC (As := [.int x]) (st := [.int (nI 0), .ref o]) (C := RX6) (T := TX6) (N := 6) (ci := 6) (l := l) B hLF hl hM gL_restore_X6_restore rfl ⟨rfl, rfl⟩ nm_X6_restore ⟨by decide, by decide⟩ 0 hr0 rfl rfl (Nat.le_of_ble_eq_true rfl) dL_restore_4 rfl rfl (by decide) (by decide) (fun E w1 hx => ?_) (fun r w1 hp => ?_)
  · rcases hE E w1 hx with rfl | rfl
    · refine z_catch B hLF htab (by decide) [] ⟨0, 9, 12, 13⟩ [⟨0, 9, 15, 17⟩] rfl (fun _ h => absurd h List.not_mem_nil) (by decide) (by decide) (List.mem_of_getElem? (i := 1) rfl) (fun q => ?_)
      refine z_astore_n (lv1 := [(3, .ref q), (0, .ref b), (1, .int x), (2, .ref o)]) B dL_restore_12 rfl (by decide) rfl ?_
      refine z_iconst (v := nI 1) B dL_restore_13 (by decide) ?_
      exact z_mret B hAe hr dL_restore_14 rfl (by decide) (by decide) (Or.inr ⟨_, w1, 0, rfl, rfl, rfl, hx⟩)
    · refine z_catch B hLF htab (by decide) [⟨0, 9, 12, 13⟩] ⟨0, 9, 15, 17⟩ [] rfl (List.forall_mem_cons.mpr ⟨⟨by decide, "java/lang/IndexOutOfBoundsException", by decide, List.mem_of_getElem? (i := 1) rfl, by decide⟩, (fun _ h => absurd h List.not_mem_nil)⟩) (by decide) (by decide) (List.mem_of_getElem? (i := 2) rfl) (fun q => ?_)
      refine z_astore_n (lv1 := [(3, .ref q), (0, .ref b), (1, .int x), (2, .ref o)]) B dL_restore_15 rfl (by decide) rfl ?_
      refine z_iconst (v := nI 2) B dL_restore_16 (by decide) ?_
      exact z_mret B hAe hr dL_restore_17 rfl (by decide) (by decide) (Or.inr ⟨_, w1, 1, rfl, rfl, rfl, hx⟩)
  · refine z_i2l B dL_restore_7 ?_
    refine z_last (i := 0) (w' := (o, .inl (g.2.2.2, 1, .inr (.inl (vp_updL f 0 r.toInt64)))) :: w1) B 0 3 rfl rfl (by decide) (by decide) dL_restore_8 rfl ?_
    refine z_goto B 18 dL_restore_9 (by decide) ?_
    refine z_iconst (v := nI 0) B dL_restore_18 (by decide) ?_
    exact z_mret B hAe hr dL_restore_19 rfl (by decide) (by decide) (Or.inl ⟨rfl, r, w1, rfl, hp⟩)
set_option maxHeartbeats 4000000 in
set_option maxRecDepth 100000 in
theorem wr_open (l : Launch) (D : va_G) (g : zG) (o b : Nat) (f : Nat → Int64) (wc : va_W) (fs : List Value) (hr0 : wc[0]? = some (b, .inr (6, fs))) (P : Int32 → va_W → Prop) (xp : String → va_W → Prop) (hE : ∀ E w, xp E w → E = "java/lang/IllegalStateException") (hM : zThrL l yX6_open wsX6_open { frames := 6, cells := 1, slots := 6, locals := 82 } D (zT g) wc [.ref b] P xp 1 6) : zWrp l yL_open wsL_open { frames := 7, cells := 1, slots := 6, locals := 102 } D (zT g) ((o, .inl (g.2.2.2, 1, .inr (.inl f))) :: wc) [.ref b, .ref o] (wPost g o f P xp ["java/lang/IllegalStateException"]) 1 6 := by
  refine zWrp_of (cc := cL_open) (maxL := 3) (ret := (some .int)) (own := RL) (hh := [(0, 8, 11, 17)]) [(0, .ref b), (1, .ref o)] (by decide) rfl rfl rfl (Nat.le_of_ble_eq_true rfl) ?_
  intro X A hAe hl B hr htab hLF
  refine z_aload_n B 1 dL_open_0 rfl rfl ?_
  refine z_iconst (v := nI 0) B dL_open_1 (by decide) ?_
  refine z_aload_n B 0 dL_open_2 rfl rfl ?_
  refine z_w (w' := [(o, .inl (g.2.2.2, 1, .inr (.inl f)))] ++ wc) rfl ?_
  refine z_callC (As := []) (st := [.int (nI 0), .ref o]) (C := RX6) (T := TX6) (N := 6) (ci := 6) (l := l) B hLF hl hM gL_open_X6_open rfl ⟨rfl, rfl⟩ nm_X6_open ⟨by decide, by decide⟩ 0 hr0 rfl rfl (Nat.le_of_ble_eq_true rfl) dL_open_3 rfl rfl (by decide) (by decide) (fun E w1 hx => ?_) (fun r w1 hp => ?_)
  · rcases hE E w1 hx with rfl
    · refine z_catch B hLF htab (by decide) [] ⟨0, 8, 11, 17⟩ [] rfl (fun _ h => absurd h List.not_mem_nil) (by decide) (by decide) (List.mem_of_getElem? (i := 1) rfl) (fun q => ?_)
      refine z_astore_n (lv1 := [(2, .ref q), (0, .ref b), (1, .ref o)]) B dL_open_11 rfl (by decide) rfl ?_
      refine z_iconst (v := nI 1) B dL_open_12 (by decide) ?_
      exact z_mret B hAe hr dL_open_13 rfl (by decide) (by decide) (Or.inr ⟨_, w1, 0, rfl, rfl, rfl, hx⟩)
  · refine z_i2l B dL_open_6 ?_
    refine z_last (i := 0) (w' := (o, .inl (g.2.2.2, 1, .inr (.inl (vp_updL f 0 r.toInt64)))) :: w1) B 0 3 rfl rfl (by decide) (by decide) dL_open_7 rfl ?_
    refine z_goto B 14 dL_open_8 (by decide) ?_
    refine z_iconst (v := nI 0) B dL_open_14 (by decide) ?_
    exact z_mret B hAe hr dL_open_15 rfl (by decide) (by decide) (Or.inl ⟨rfl, r, w1, rfl, hp⟩)
set_option maxHeartbeats 4000000 in
set_option maxRecDepth 100000 in
theorem wr_close (l : Launch) (D : va_G) (g : zG) (o b : Nat) (f : Nat → Int64) (wc : va_W) (fs : List Value) (hr0 : wc[0]? = some (b, .inr (6, fs))) (x : Int32) (P : Int32 → va_W → Prop) (xp : String → va_W → Prop) (hE : ∀ E w, xp E w → E = "java/lang/IndexOutOfBoundsException" ∨ E = "java/lang/IllegalStateException") (hM : zThrL l yX6_close wsX6_close { frames := 7, cells := 2, slots := 12, locals := 103 } D (zT g) wc [.ref b, .int x] P xp 2 12) : zWrp l yL_close wsL_close { frames := 8, cells := 2, slots := 12, locals := 125 } D (zT g) ((o, .inl (g.2.2.2, 1, .inr (.inl f))) :: wc) [.ref b, .int x, .ref o] (wPost g o f P xp ["java/lang/IndexOutOfBoundsException", "java/lang/IllegalStateException"]) 2 12 := by
  refine zWrp_of (cc := cL_close) (maxL := 4) (ret := (some .int)) (own := RL) (hh := [(0, 9, 12, 13), (0, 9, 15, 17)]) [(0, .ref b), (1, .int x), (2, .ref o)] (by decide) rfl rfl rfl (Nat.le_of_ble_eq_true rfl) ?_
  intro X A hAe hl B hr htab hLF
  refine z_aload_n B 2 dL_close_0 rfl rfl ?_
  refine z_iconst (v := nI 0) B dL_close_1 (by decide) ?_
  refine z_aload_n B 0 dL_close_2 rfl rfl ?_
  refine z_iload_n B 1 dL_close_3 rfl rfl ?_
  refine z_w (w' := [(o, .inl (g.2.2.2, 1, .inr (.inl f)))] ++ wc) rfl ?_
  refine z_callC (As := [.int x]) (st := [.int (nI 0), .ref o]) (C := RX6) (T := TX6) (N := 6) (ci := 6) (l := l) B hLF hl hM gL_close_X6_close rfl ⟨rfl, rfl⟩ nm_X6_close ⟨by decide, by decide⟩ 0 hr0 rfl rfl (Nat.le_of_ble_eq_true rfl) dL_close_4 rfl rfl (by decide) (by decide) (fun E w1 hx => ?_) (fun r w1 hp => ?_)
  · rcases hE E w1 hx with rfl | rfl
    · refine z_catch B hLF htab (by decide) [] ⟨0, 9, 12, 13⟩ [⟨0, 9, 15, 17⟩] rfl (fun _ h => absurd h List.not_mem_nil) (by decide) (by decide) (List.mem_of_getElem? (i := 1) rfl) (fun q => ?_)
      refine z_astore_n (lv1 := [(3, .ref q), (0, .ref b), (1, .int x), (2, .ref o)]) B dL_close_12 rfl (by decide) rfl ?_
      refine z_iconst (v := nI 1) B dL_close_13 (by decide) ?_
      exact z_mret B hAe hr dL_close_14 rfl (by decide) (by decide) (Or.inr ⟨_, w1, 0, rfl, rfl, rfl, hx⟩)
    · refine z_catch B hLF htab (by decide) [⟨0, 9, 12, 13⟩] ⟨0, 9, 15, 17⟩ [] rfl (List.forall_mem_cons.mpr ⟨⟨by decide, "java/lang/IndexOutOfBoundsException", by decide, List.mem_of_getElem? (i := 1) rfl, by decide⟩, (fun _ h => absurd h List.not_mem_nil)⟩) (by decide) (by decide) (List.mem_of_getElem? (i := 2) rfl) (fun q => ?_)
      refine z_astore_n (lv1 := [(3, .ref q), (0, .ref b), (1, .int x), (2, .ref o)]) B dL_close_15 rfl (by decide) rfl ?_
      refine z_iconst (v := nI 2) B dL_close_16 (by decide) ?_
      exact z_mret B hAe hr dL_close_17 rfl (by decide) (by decide) (Or.inr ⟨_, w1, 1, rfl, rfl, rfl, hx⟩)
  · refine z_i2l B dL_close_7 ?_
    refine z_last (i := 0) (w' := (o, .inl (g.2.2.2, 1, .inr (.inl (vp_updL f 0 r.toInt64)))) :: w1) B 0 3 rfl rfl (by decide) (by decide) dL_close_8 rfl ?_
    refine z_goto B 18 dL_close_9 (by decide) ?_
    refine z_iconst (v := nI 0) B dL_close_18 (by decide) ?_
    exact z_mret B hAe hr dL_close_19 rfl (by decide) (by decide) (Or.inl ⟨rfl, r, w1, rfl, hp⟩)
set_option maxHeartbeats 4000000 in
set_option maxRecDepth 100000 in
theorem wr_hold (l : Launch) (D : va_G) (g : zG) (o b : Nat) (f : Nat → Int64) (wc : va_W) (fs : List Value) (hr0 : wc[0]? = some (b, .inr (6, fs))) (x : Int32) (y : Int32) (z : Int32) (u : Int32) (P : Int32 → va_W → Prop) (xp : String → va_W → Prop) (hE : ∀ E w, xp E w → E = "java/lang/IndexOutOfBoundsException" ∨ E = "java/lang/IllegalArgumentException" ∨ E = "java/lang/IllegalStateException") (hM : zThrL l yX6_hold wsX6_hold { frames := 7, cells := 3, slots := 18, locals := 103 } D (zT g) wc [.ref b, .int x, .int y, .int z, .int u] P xp 3 18) : zWrp l yL_hold wsL_hold { frames := 8, cells := 3, slots := 18, locals := 127 } D (zT g) ((o, .inl (g.2.2.2, 1, .inr (.inl f))) :: wc) [.ref b, .int x, .int y, .int z, .int u, .ref o] (wPost g o f P xp ["java/lang/IndexOutOfBoundsException", "java/lang/IllegalArgumentException", "java/lang/IllegalStateException"]) 3 18 := by
  refine zWrp_of (cc := cL_hold) (maxL := 7) (ret := (some .int)) (own := RL) (hh := [(0, 14, 17, 13), (0, 14, 21, 15), (0, 14, 25, 17)]) [(0, .ref b), (1, .int x), (2, .int y), (3, .int z), (4, .int u), (5, .ref o)] (by decide) rfl rfl rfl (Nat.le_of_ble_eq_true rfl) ?_
  intro X A hAe hl B hr htab hLF
  refine z_aload B 5 dL_hold_0 rfl ?_
  refine z_iconst (v := nI 0) B dL_hold_2 (by decide) ?_
  refine z_aload_n B 0 dL_hold_3 rfl rfl ?_
  refine z_iload_n B 1 dL_hold_4 rfl rfl ?_
  refine z_iload_n B 2 dL_hold_5 rfl rfl ?_
  refine z_iload_n B 3 dL_hold_6 rfl rfl ?_
  refine z_iload B 4 dL_hold_7 rfl ?_
  refine z_w (w' := [(o, .inl (g.2.2.2, 1, .inr (.inl f)))] ++ wc) rfl ?_
  refine z_callC (As := [.int x, .int y, .int z, .int u]) (st := [.int (nI 0), .ref o]) (C := RX6) (T := TX6) (N := 6) (ci := 6) (l := l) B hLF hl hM gL_hold_X6_hold rfl ⟨rfl, rfl⟩ nm_X6_hold ⟨by decide, by decide⟩ 0 hr0 rfl rfl (Nat.le_of_ble_eq_true rfl) dL_hold_9 rfl rfl (by decide) (by decide) (fun E w1 hx => ?_) (fun r w1 hp => ?_)
  · rcases hE E w1 hx with rfl | rfl | rfl
    · refine z_catch B hLF htab (by decide) [] ⟨0, 14, 17, 13⟩ [⟨0, 14, 21, 15⟩, ⟨0, 14, 25, 17⟩] rfl (fun _ h => absurd h List.not_mem_nil) (by decide) (by decide) (List.mem_of_getElem? (i := 1) rfl) (fun q => ?_)
      refine z_astore (lv1 := [(6, .ref q), (0, .ref b), (1, .int x), (2, .int y), (3, .int z), (4, .int u), (5, .ref o)]) B dL_hold_17 (by decide) rfl ?_
      refine z_iconst (v := nI 1) B dL_hold_19 (by decide) ?_
      exact z_mret B hAe hr dL_hold_20 rfl (by decide) (by decide) (Or.inr ⟨_, w1, 0, rfl, rfl, rfl, hx⟩)
    · refine z_catch B hLF htab (by decide) [⟨0, 14, 17, 13⟩] ⟨0, 14, 21, 15⟩ [⟨0, 14, 25, 17⟩] rfl (List.forall_mem_cons.mpr ⟨⟨by decide, "java/lang/IndexOutOfBoundsException", by decide, List.mem_of_getElem? (i := 1) rfl, by decide⟩, (fun _ h => absurd h List.not_mem_nil)⟩) (by decide) (by decide) (List.mem_of_getElem? (i := 2) rfl) (fun q => ?_)
      refine z_astore (lv1 := [(6, .ref q), (0, .ref b), (1, .int x), (2, .int y), (3, .int z), (4, .int u), (5, .ref o)]) B dL_hold_21 (by decide) rfl ?_
      refine z_iconst (v := nI 2) B dL_hold_23 (by decide) ?_
      exact z_mret B hAe hr dL_hold_24 rfl (by decide) (by decide) (Or.inr ⟨_, w1, 1, rfl, rfl, rfl, hx⟩)
    · refine z_catch B hLF htab (by decide) [⟨0, 14, 17, 13⟩, ⟨0, 14, 21, 15⟩] ⟨0, 14, 25, 17⟩ [] rfl (List.forall_mem_cons.mpr ⟨⟨by decide, "java/lang/IndexOutOfBoundsException", by decide, List.mem_of_getElem? (i := 1) rfl, by decide⟩, (List.forall_mem_cons.mpr ⟨⟨by decide, "java/lang/IllegalArgumentException", by decide, List.mem_of_getElem? (i := 2) rfl, by decide⟩, (fun _ h => absurd h List.not_mem_nil)⟩)⟩) (by decide) (by decide) (List.mem_of_getElem? (i := 3) rfl) (fun q => ?_)
      refine z_astore (lv1 := [(6, .ref q), (0, .ref b), (1, .int x), (2, .int y), (3, .int z), (4, .int u), (5, .ref o)]) B dL_hold_25 (by decide) rfl ?_
      refine z_iconst (v := nI 3) B dL_hold_27 (by decide) ?_
      exact z_mret B hAe hr dL_hold_28 rfl (by decide) (by decide) (Or.inr ⟨_, w1, 2, rfl, rfl, rfl, hx⟩)
  · refine z_i2l B dL_hold_12 ?_
    refine z_last (i := 0) (w' := (o, .inl (g.2.2.2, 1, .inr (.inl (vp_updL f 0 r.toInt64)))) :: w1) B 0 3 rfl rfl (by decide) (by decide) dL_hold_13 rfl ?_
    refine z_goto B 29 dL_hold_14 (by decide) ?_
    refine z_iconst (v := nI 0) B dL_hold_29 (by decide) ?_
    exact z_mret B hAe hr dL_hold_30 rfl (by decide) (by decide) (Or.inl ⟨rfl, r, w1, rfl, hp⟩)
set_option maxHeartbeats 4000000 in
set_option maxRecDepth 100000 in
theorem wr_strike (l : Launch) (D : va_G) (g : zG) (o b : Nat) (f : Nat → Int64) (wc : va_W) (fs : List Value) (hr0 : wc[0]? = some (b, .inr (6, fs))) (x : Int32) (y : Int32) (P : Int32 → va_W → Prop) (xp : String → va_W → Prop) (hE : ∀ E w, xp E w → E = "java/lang/IndexOutOfBoundsException" ∨ E = "java/lang/IllegalStateException") (hM : zThrL l yX6_strike wsX6_strike { frames := 7, cells := 3, slots := 18, locals := 103 } D (zT g) wc [.ref b, .int x, .int y] P xp 3 18) : zWrp l yL_strike wsL_strike { frames := 8, cells := 3, slots := 18, locals := 125 } D (zT g) ((o, .inl (g.2.2.2, 1, .inr (.inl f))) :: wc) [.ref b, .int x, .int y, .ref o] (wPost g o f P xp ["java/lang/IndexOutOfBoundsException", "java/lang/IllegalStateException"]) 3 18 := by
  refine zWrp_of (cc := cL_strike) (maxL := 5) (ret := (some .int)) (own := RL) (hh := [(0, 10, 13, 13), (0, 10, 17, 17)]) [(0, .ref b), (1, .int x), (2, .int y), (3, .ref o)] (by decide) rfl rfl rfl (Nat.le_of_ble_eq_true rfl) ?_
  intro X A hAe hl B hr htab hLF
  refine z_aload_n B 3 dL_strike_0 rfl rfl ?_
  refine z_iconst (v := nI 0) B dL_strike_1 (by decide) ?_
  refine z_aload_n B 0 dL_strike_2 rfl rfl ?_
  refine z_iload_n B 1 dL_strike_3 rfl rfl ?_
  refine z_iload_n B 2 dL_strike_4 rfl rfl ?_
  refine z_w (w' := [(o, .inl (g.2.2.2, 1, .inr (.inl f)))] ++ wc) rfl ?_
  refine z_callC (As := [.int x, .int y]) (st := [.int (nI 0), .ref o]) (C := RX6) (T := TX6) (N := 6) (ci := 6) (l := l) B hLF hl hM gL_strike_X6_strike rfl ⟨rfl, rfl⟩ nm_X6_strike ⟨by decide, by decide⟩ 0 hr0 rfl rfl (Nat.le_of_ble_eq_true rfl) dL_strike_5 rfl rfl (by decide) (by decide) (fun E w1 hx => ?_) (fun r w1 hp => ?_)
  · rcases hE E w1 hx with rfl | rfl
    · refine z_catch B hLF htab (by decide) [] ⟨0, 10, 13, 13⟩ [⟨0, 10, 17, 17⟩] rfl (fun _ h => absurd h List.not_mem_nil) (by decide) (by decide) (List.mem_of_getElem? (i := 1) rfl) (fun q => ?_)
      refine z_astore (lv1 := [(4, .ref q), (0, .ref b), (1, .int x), (2, .int y), (3, .ref o)]) B dL_strike_13 (by decide) rfl ?_
      refine z_iconst (v := nI 1) B dL_strike_15 (by decide) ?_
      exact z_mret B hAe hr dL_strike_16 rfl (by decide) (by decide) (Or.inr ⟨_, w1, 0, rfl, rfl, rfl, hx⟩)
    · refine z_catch B hLF htab (by decide) [⟨0, 10, 13, 13⟩] ⟨0, 10, 17, 17⟩ [] rfl (List.forall_mem_cons.mpr ⟨⟨by decide, "java/lang/IndexOutOfBoundsException", by decide, List.mem_of_getElem? (i := 1) rfl, by decide⟩, (fun _ h => absurd h List.not_mem_nil)⟩) (by decide) (by decide) (List.mem_of_getElem? (i := 2) rfl) (fun q => ?_)
      refine z_astore (lv1 := [(4, .ref q), (0, .ref b), (1, .int x), (2, .int y), (3, .ref o)]) B dL_strike_17 (by decide) rfl ?_
      refine z_iconst (v := nI 2) B dL_strike_19 (by decide) ?_
      exact z_mret B hAe hr dL_strike_20 rfl (by decide) (by decide) (Or.inr ⟨_, w1, 1, rfl, rfl, rfl, hx⟩)
  · refine z_i2l B dL_strike_8 ?_
    refine z_last (i := 0) (w' := (o, .inl (g.2.2.2, 1, .inr (.inl (vp_updL f 0 r.toInt64)))) :: w1) B 0 3 rfl rfl (by decide) (by decide) dL_strike_9 rfl ?_
    refine z_goto B 21 dL_strike_10 (by decide) ?_
    refine z_iconst (v := nI 0) B dL_strike_21 (by decide) ?_
    exact z_mret B hAe hr dL_strike_22 rfl (by decide) (by decide) (Or.inl ⟨rfl, r, w1, rfl, hp⟩)
set_option maxHeartbeats 4000000 in
set_option maxRecDepth 100000 in
theorem wr_state (l : Launch) (D : va_G) (g : zG) (o b : Nat) (f : Nat → Int64) (wc : va_W) (fs : List Value) (hr0 : wc[0]? = some (b, .inr (6, fs))) (x : Int32) (P : Int32 → va_W → Prop) (xp : String → va_W → Prop) (hE : ∀ E w, xp E w → E = "java/lang/IndexOutOfBoundsException") (hM : zThrL l yX6_state wsX6_state { frames := 7, cells := 1, slots := 6, locals := 103 } D (zT g) wc [.ref b, .int x] P xp 1 6) : zWrp l yL_state wsL_state { frames := 8, cells := 1, slots := 6, locals := 124 } D (zT g) ((o, .inl (g.2.2.2, 1, .inr (.inl f))) :: wc) [.ref b, .int x, .ref o] (wPost g o f P xp ["java/lang/IndexOutOfBoundsException"]) 1 6 := by
  refine zWrp_of (cc := cL_state) (maxL := 4) (ret := (some .int)) (own := RL) (hh := [(0, 9, 12, 13)]) [(0, .ref b), (1, .int x), (2, .ref o)] (by decide) rfl rfl rfl (Nat.le_of_ble_eq_true rfl) ?_
  intro X A hAe hl B hr htab hLF
  refine z_aload_n B 2 dL_state_0 rfl rfl ?_
  refine z_iconst (v := nI 0) B dL_state_1 (by decide) ?_
  refine z_aload_n B 0 dL_state_2 rfl rfl ?_
  refine z_iload_n B 1 dL_state_3 rfl rfl ?_
  refine z_w (w' := [(o, .inl (g.2.2.2, 1, .inr (.inl f)))] ++ wc) rfl ?_
  refine z_callC (As := [.int x]) (st := [.int (nI 0), .ref o]) (C := RX6) (T := TX6) (N := 6) (ci := 6) (l := l) B hLF hl hM gL_state_X6_state rfl ⟨rfl, rfl⟩ nm_X6_state ⟨by decide, by decide⟩ 0 hr0 rfl rfl (Nat.le_of_ble_eq_true rfl) dL_state_4 rfl rfl (by decide) (by decide) (fun E w1 hx => ?_) (fun r w1 hp => ?_)
  · rcases hE E w1 hx with rfl
    · refine z_catch B hLF htab (by decide) [] ⟨0, 9, 12, 13⟩ [] rfl (fun _ h => absurd h List.not_mem_nil) (by decide) (by decide) (List.mem_of_getElem? (i := 1) rfl) (fun q => ?_)
      refine z_astore_n (lv1 := [(3, .ref q), (0, .ref b), (1, .int x), (2, .ref o)]) B dL_state_12 rfl (by decide) rfl ?_
      refine z_iconst (v := nI 1) B dL_state_13 (by decide) ?_
      exact z_mret B hAe hr dL_state_14 rfl (by decide) (by decide) (Or.inr ⟨_, w1, 0, rfl, rfl, rfl, hx⟩)
  · refine z_i2l B dL_state_7 ?_
    refine z_last (i := 0) (w' := (o, .inl (g.2.2.2, 1, .inr (.inl (vp_updL f 0 r.toInt64)))) :: w1) B 0 3 rfl rfl (by decide) (by decide) dL_state_8 rfl ?_
    refine z_goto B 15 dL_state_9 (by decide) ?_
    refine z_iconst (v := nI 0) B dL_state_15 (by decide) ?_
    exact z_mret B hAe hr dL_state_16 rfl (by decide) (by decide) (Or.inl ⟨rfl, r, w1, rfl, hp⟩)
