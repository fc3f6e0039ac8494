/-! the law's wrappers -/
set_option maxHeartbeats 4000000 in
set_option maxRecDepth 100000 in
theorem wr_legs (l : Launch) (D : va_G) (g : zG) (b : Nat) (wc : va_W) (fs : List Value) (hr0 : wc[0]? = some (b, .inr (6, fs))) (x : Int32) (y : Int32) (P : Int32 → va_W → Prop) (xp : String → va_W → Prop) (post : Int32 → va_W → Prop) (hN : ∀ r w, P r w → post r w) (hX : ∀ E w, xp E w → post (xcd E) w) (hE : ∀ E w, xp E w → E = "java/lang/IndexOutOfBoundsException" ∨ E = "java/lang/IllegalArgumentException" ∨ E = "java/lang/IllegalStateException") (hM : zThrL l yX6_leg wsX6_leg { frames := 7, cells := 3, slots := 18, locals := 102 } D (zT g) wc [.ref b, .int x, .int y] P xp 3 18) : zWrp l yL_legs wsL_legs { frames := 8, cells := 3, slots := 18, locals := 124 } D (zT g) wc [.ref b, .int x, .int y] post 3 18 := by
  refine zWrp_of (cc := cL_legs) (maxL := 4) (ret := (some .int)) (own := RL) (hh := [(0, 6, 7, 13), (0, 6, 11, 16), (0, 6, 15, 19)]) [(0, .ref b), (1, .int x), (2, .int y)] (by decide) rfl rfl rfl (Nat.le_of_ble_eq_true rfl) ?_
  intro X A hAe hl B hr htab hLF
  refine z_aload_n B 0 dL_legs_0 rfl rfl ?_
  refine z_iload_n B 1 dL_legs_1 rfl rfl ?_
  refine z_iload_n B 2 dL_legs_2 rfl rfl ?_
  refine z_w (w' := [] ++ wc) rfl ?_
  refine z_callC (As := [.int x, .int y]) (st := []) (C := RX6) (T := TX6) (N := 6) (ci := 6) (l := l) B hLF hl hM gL_legs_X6_leg rfl ⟨rfl, rfl⟩ nm_X6_leg ⟨by decide, by decide⟩ 0 hr0 rfl rfl (Nat.le_of_ble_eq_true rfl) dL_legs_3 rfl rfl (by decide) (by decide) (fun E w1 hx => ?_) (fun r w1 hp => ?_)
  · rcases hE E w1 hx with rfl | rfl | rfl
    · have hpx := hX _ _ hx
      rw [xcd_B] at hpx
      refine z_catch B hLF htab (by decide) [] ⟨0, 6, 7, 13⟩ [⟨0, 6, 11, 16⟩, ⟨0, 6, 15, 19⟩] rfl (fun _ h => absurd h List.not_mem_nil) (by decide) (by decide) (List.mem_of_getElem? (i := 1) rfl) (fun q => ?_)
      refine z_astore_n (lv1 := [(3, .ref q), (0, .ref b), (1, .int x), (2, .int y)]) B dL_legs_7 rfl (by decide) rfl ?_
      refine z_ldc (v := (-2000000001)) B 4 rfl dL_legs_8 ?_
      exact z_mret B hAe hr dL_legs_10 rfl (by decide) (by decide) hpx
    · have hpx := hX _ _ hx
      rw [xcd_A] at hpx
      refine z_catch B hLF htab (by decide) [⟨0, 6, 7, 13⟩] ⟨0, 6, 11, 16⟩ [⟨0, 6, 15, 19⟩] rfl (List.forall_mem_cons.mpr ⟨⟨by decide, "java/lang/IndexOutOfBoundsException", by decide, List.mem_of_getElem? (i := 1) rfl, by decide⟩, (fun _ h => absurd h List.not_mem_nil)⟩) (by decide) (by decide) (List.mem_of_getElem? (i := 2) rfl) (fun q => ?_)
      refine z_astore_n (lv1 := [(3, .ref q), (0, .ref b), (1, .int x), (2, .int y)]) B dL_legs_11 rfl (by decide) rfl ?_
      refine z_ldc (v := (-2000000002)) B 5 rfl dL_legs_12 ?_
      exact z_mret B hAe hr dL_legs_14 rfl (by decide) (by decide) hpx
    · have hpx := hX _ _ hx
      rw [xcd_S] at hpx
      refine z_catch B hLF htab (by decide) [⟨0, 6, 7, 13⟩, ⟨0, 6, 11, 16⟩] ⟨0, 6, 15, 19⟩ [] rfl (List.forall_mem_cons.mpr ⟨⟨by decide, "java/lang/IndexOutOfBoundsException", by decide, List.mem_of_getElem? (i := 1) rfl, by decide⟩, (List.forall_mem_cons.mpr ⟨⟨by decide, "java/lang/IllegalArgumentException", by decide, List.mem_of_getElem? (i := 2) rfl, by decide⟩, (fun _ h => absurd h List.not_mem_nil)⟩)⟩) (by decide) (by decide) (List.mem_of_getElem? (i := 3) rfl) (fun q => ?_)
      refine z_astore_n (lv1 := [(3, .ref q), (0, .ref b), (1, .int x), (2, .int y)]) B dL_legs_15 rfl (by decide) rfl ?_
      refine z_ldc (v := (-2000000003)) B 6 rfl dL_legs_16 ?_
      exact z_mret B hAe hr dL_legs_18 rfl (by decide) (by decide) hpx
  · exact z_mret B hAe hr dL_legs_6 rfl (by decide) (by decide) (hN _ _ hp)
set_option maxHeartbeats 4000000 in
set_option maxRecDepth 100000 in
theorem wr_writes (l : Launch) (D : va_G) (g : zG) (b : Nat) (wc : va_W) (fs : List Value) (hr0 : wc[0]? = some (b, .inr (6, fs))) (x : Int32) (P : Int32 → va_W → Prop) (xp : String → va_W → Prop) (post : Int32 → va_W → Prop) (hN : ∀ r w, P r w → post r w) (hX : ∀ E w, xp E w → post (xcd E) w) (hE : ∀ E w, xp E w → E = "java/lang/IllegalArgumentException" ∨ E = "java/lang/IllegalStateException") (hM : zThrL l yX6_write wsX6_write { frames := 7, cells := 2, slots := 12, locals := 102 } D (zT g) wc [.ref b, .int x] P xp 2 12) : zWrp l yL_writes wsL_writes { frames := 8, cells := 2, slots := 12, locals := 124 } D (zT g) wc [.ref b, .int x] post 2 12 := by
  refine zWrp_of (cc := cL_writes) (maxL := 3) (ret := (some .int)) (own := RL) (hh := [(0, 5, 6, 16), (0, 5, 10, 19)]) [(0, .ref b), (1, .int x)] (by decide) rfl rfl rfl (Nat.le_of_ble_eq_true rfl) ?_
  intro X A hAe hl B hr htab hLF
  refine z_aload_n B 0 dL_writes_0 rfl rfl ?_
  refine z_iload_n B 1 dL_writes_1 rfl rfl ?_
  refine z_w (w' := [] ++ wc) rfl ?_
  refine z_callC (As := [.int x]) (st := []) (C := RX6) (T := TX6) (N := 6) (ci := 6) (l := l) B hLF hl hM gL_writes_X6_write rfl ⟨rfl, rfl⟩ nm_X6_write ⟨by decide, by decide⟩ 0 hr0 rfl rfl (Nat.le_of_ble_eq_true rfl) dL_writes_2 rfl rfl (by decide) (by decide) (fun E w1 hx => ?_) (fun r w1 hp => ?_)
  · rcases hE E w1 hx with rfl | rfl
    · have hpx := hX _ _ hx
      rw [xcd_A] at hpx
      refine z_catch B hLF htab (by decide) [] ⟨0, 5, 6, 16⟩ [⟨0, 5, 10, 19⟩] rfl (fun _ h => absurd h List.not_mem_nil) (by decide) (by decide) (List.mem_of_getElem? (i := 1) rfl) (fun q => ?_)
      refine z_astore_n (lv1 := [(2, .ref q), (0, .ref b), (1, .int x)]) B dL_writes_6 rfl (by decide) rfl ?_
      refine z_ldc (v := (-2000000002)) B 3 rfl dL_writes_7 ?_
      exact z_mret B hAe hr dL_writes_9 rfl (by decide) (by decide) hpx
    · have hpx := hX _ _ hx
      rw [xcd_S] at hpx
      refine z_catch B hLF htab (by decide) [⟨0, 5, 6, 16⟩] ⟨0, 5, 10, 19⟩ [] rfl (List.forall_mem_cons.mpr ⟨⟨by decide, "java/lang/IllegalArgumentException", by decide, List.mem_of_getElem? (i := 1) rfl, by decide⟩, (fun _ h => absurd h List.not_mem_nil)⟩) (by decide) (by decide) (List.mem_of_getElem? (i := 2) rfl) (fun q => ?_)
      refine z_astore_n (lv1 := [(2, .ref q), (0, .ref b), (1, .int x)]) B dL_writes_10 rfl (by decide) rfl ?_
      refine z_ldc (v := (-2000000003)) B 4 rfl dL_writes_11 ?_
      exact z_mret B hAe hr dL_writes_13 rfl (by decide) (by decide) hpx
  · exact z_mret B hAe hr dL_writes_5 rfl (by decide) (by decide) (hN _ _ hp)
set_option maxHeartbeats 4000000 in
set_option maxRecDepth 100000 in
theorem wr_reverses (l : Launch) (D : va_G) (g : zG) (b : Nat) (wc : va_W) (fs : List Value) (hr0 : wc[0]? = some (b, .inr (6, fs))) (x : Int32) (P : Int32 → va_W → Prop) (xp : String → va_W → Prop) (post : Int32 → va_W → Prop) (hN : ∀ r w, P r w → post r w) (hX : ∀ E w, xp E w → post (xcd E) w) (hE : ∀ E w, xp E w → E = "java/lang/IndexOutOfBoundsException" ∨ E = "java/lang/IllegalStateException") (hM : zThrL l yX6_reverse wsX6_reverse { frames := 7, cells := 2, slots := 12, locals := 103 } D (zT g) wc [.ref b, .int x] P xp 2 12) : zWrp l yL_reverses wsL_reverses { frames := 8, cells := 2, slots := 12, locals := 124 } D (zT g) wc [.ref b, .int x] post 2 12 := by
  refine zWrp_of (cc := cL_reverses) (maxL := 3) (ret := (some .int)) (own := RL) (hh := [(0, 5, 6, 13), (0, 5, 10, 19)]) [(0, .ref b), (1, .int x)] (by decide) rfl rfl rfl (Nat.le_of_ble_eq_true rfl) ?_
  intro X A hAe hl B hr htab hLF
  refine z_aload_n B 0 dL_reverses_0 rfl rfl ?_
  refine z_iload_n B 1 dL_reverses_1 rfl rfl ?_
  refine z_w (w' := [] ++ wc) rfl ?_
  refine z_callC (As := [.int x]) (st := []) (C := RX6) (T := TX6) (N := 6) (ci := 6) (l := l) B hLF hl hM gL_reverses_X6_reverse rfl ⟨rfl, rfl⟩ nm_X6_reverse ⟨by decide, by decide⟩ 0 hr0 rfl rfl (Nat.le_of_ble_eq_true rfl) dL_reverses_2 rfl rfl (by decide) (by decide) (fun E w1 hx => ?_) (fun r w1 hp => ?_)
  · rcases hE E w1 hx with rfl | rfl
    · have hpx := hX _ _ hx
      rw [xcd_B] at hpx
      refine z_catch B hLF htab (by decide) [] ⟨0, 5, 6, 13⟩ [⟨0, 5, 10, 19⟩] rfl (fun _ h => absurd h List.not_mem_nil) (by decide) (by decide) (List.mem_of_getElem? (i := 1) rfl) (fun q => ?_)
      refine z_astore_n (lv1 := [(2, .ref q), (0, .ref b), (1, .int x)]) B dL_reverses_6 rfl (by decide) rfl ?_
      refine z_ldc (v := (-2000000001)) B 3 rfl dL_reverses_7 ?_
      exact z_mret B hAe hr dL_reverses_9 rfl (by decide) (by decide) hpx
    · have hpx := hX _ _ hx
      rw [xcd_S] at hpx
      refine z_catch B hLF htab (by decide) [⟨0, 5, 6, 13⟩] ⟨0, 5, 10, 19⟩ [] rfl (List.forall_mem_cons.mpr ⟨⟨by decide, "java/lang/IndexOutOfBoundsException", by decide, List.mem_of_getElem? (i := 1) rfl, by decide⟩, (fun _ h => absurd h List.not_mem_nil)⟩) (by decide) (by decide) (List.mem_of_getElem? (i := 2) rfl) (fun q => ?_)
      refine z_astore_n (lv1 := [(2, .ref q), (0, .ref b), (1, .int x)]) B dL_reverses_10 rfl (by decide) rfl ?_
      refine z_ldc (v := (-2000000003)) B 4 rfl dL_reverses_11 ?_
      exact z_mret B hAe hr dL_reverses_13 rfl (by decide) (by decide) hpx
  · exact z_mret B hAe hr dL_reverses_5 rfl (by decide) (by decide) (hN _ _ hp)
set_option maxHeartbeats 4000000 in
set_option maxRecDepth 100000 in
theorem wr_passes (l : Launch) (D : va_G) (g : zG) (b : Nat) (wc : va_W) (fs : List Value) (hr0 : wc[0]? = some (b, .inr (6, fs))) (x : Int32) (P : Int32 → va_W → Prop) (xp : String → va_W → Prop) (post : Int32 → va_W → Prop) (hN : ∀ r w, P r w → post r w) (hX : ∀ E w, xp E w → post (xcd E) w) (hE : ∀ E w, xp E w → E = "java/lang/IllegalArgumentException" ∨ E = "java/lang/IllegalStateException") (hM : zThrL l yX6_pass wsX6_pass { frames := 6, cells := 1, slots := 6, locals := 82 } D (zT g) wc [.ref b, .int x] P xp 1 6) : zWrp l yL_passes wsL_passes { frames := 7, cells := 1, slots := 6, locals := 103 } D (zT g) wc [.ref b, .int x] post 1 6 := by
  refine zWrp_of (cc := cL_passes) (maxL := 3) (ret := (some .int)) (own := RL) (hh := [(0, 5, 6, 16), (0, 5, 10, 19)]) [(0, .ref b), (1, .int x)] (by decide) rfl rfl rfl (Nat.le_of_ble_eq_true rfl) ?_
  intro X A hAe hl B hr htab hLF
  refine z_aload_n B 0 dL_passes_0 rfl rfl ?_
  refine z_iload_n B 1 dL_passes_1 rfl rfl ?_
  refine z_w (w' := [] ++ wc) rfl ?_
  refine z_callC (As := [.int x]) (st := []) (C := RX6) (T := TX6) (N := 6) (ci := 6) (l := l) B hLF hl hM gL_passes_X6_pass rfl ⟨rfl, rfl⟩ nm_X6_pass ⟨by decide, by decide⟩ 0 hr0 rfl rfl (Nat.le_of_ble_eq_true rfl) dL_passes_2 rfl rfl (by decide) (by decide) (fun E w1 hx => ?_) (fun r w1 hp => ?_)
  · rcases hE E w1 hx with rfl | rfl
    · have hpx := hX _ _ hx
      rw [xcd_A] at hpx
      refine z_catch B hLF htab (by decide) [] ⟨0, 5, 6, 16⟩ [⟨0, 5, 10, 19⟩] rfl (fun _ h => absurd h List.not_mem_nil) (by decide) (by decide) (List.mem_of_getElem? (i := 1) rfl) (fun q => ?_)
      refine z_astore_n (lv1 := [(2, .ref q), (0, .ref b), (1, .int x)]) B dL_passes_6 rfl (by decide) rfl ?_
      refine z_ldc (v := (-2000000002)) B 3 rfl dL_passes_7 ?_
      exact z_mret B hAe hr dL_passes_9 rfl (by decide) (by decide) hpx
    · have hpx := hX _ _ hx
      rw [xcd_S] at hpx
      refine z_catch B hLF htab (by decide) [⟨0, 5, 6, 16⟩] ⟨0, 5, 10, 19⟩ [] rfl (List.forall_mem_cons.mpr ⟨⟨by decide, "java/lang/IllegalArgumentException", by decide, List.mem_of_getElem? (i := 1) rfl, by decide⟩, (fun _ h => absurd h List.not_mem_nil)⟩) (by decide) (by decide) (List.mem_of_getElem? (i := 2) rfl) (fun q => ?_)
      refine z_astore_n (lv1 := [(2, .ref q), (0, .ref b), (1, .int x)]) B dL_passes_10 rfl (by decide) rfl ?_
      refine z_ldc (v := (-2000000003)) B 4 rfl dL_passes_11 ?_
      exact z_mret B hAe hr dL_passes_13 rfl (by decide) (by decide) hpx
  · exact z_mret B hAe hr dL_passes_5 rfl (by decide) (by decide) (hN _ _ hp)
set_option maxHeartbeats 4000000 in
set_option maxRecDepth 100000 in
theorem wr_burns (l : Launch) (D : va_G) (g : zG) (b : Nat) (wc : va_W) (fs : List Value) (hr0 : wc[0]? = some (b, .inr (6, fs))) (x : Int32) (y : Int32) (P : Int32 → va_W → Prop) (xp : String → va_W → Prop) (post : Int32 → va_W → Prop) (hN : ∀ r w, P r w → post r w) (hX : ∀ E w, xp E w → post (xcd E) w) (hE : ∀ E w, xp E w → E = "java/lang/IndexOutOfBoundsException" ∨ E = "java/lang/IllegalArgumentException") (hM : zThrL l yX6_burn wsX6_burn { frames := 7, cells := 3, slots := 18, locals := 103 } D (zT g) wc [.ref b, .int x, .int y] P xp 3 18) : zWrp l yL_burns wsL_burns { frames := 8, cells := 3, slots := 18, locals := 127 } D (zT g) wc [.ref b, .int x, .int y] post 3 18 := by
  refine zWrp_of (cc := cL_burns) (maxL := 4) (ret := (some .int)) (own := RL) (hh := [(0, 6, 7, 13), (0, 6, 11, 16)]) [(0, .ref b), (1, .int x), (2, .int y)] (by decide) rfl rfl rfl (Nat.le_of_ble_eq_true rfl) ?_
  intro X A hAe hl B hr htab hLF
  refine z_aload_n B 0 dL_burns_0 rfl rfl ?_
  refine z_iload_n B 1 dL_burns_1 rfl rfl ?_
  refine z_iload_n B 2 dL_burns_2 rfl rfl ?_
  refine z_w (w' := [] ++ wc) rfl ?_
  refine z_callC (As := [.int x, .int y]) (st := []) (C := RX6) (T := TX6) (N := 6) (ci := 6) (l := l) B hLF hl hM gL_burns_X6_burn rfl ⟨rfl, rfl⟩ nm_X6_burn ⟨by decide, by decide⟩ 0 hr0 rfl rfl (Nat.le_of_ble_eq_true rfl) dL_burns_3 rfl rfl (by decide) (by decide) (fun E w1 hx => ?_) (fun r w1 hp => ?_)
  · rcases hE E w1 hx with rfl | rfl
    · have hpx := hX _ _ hx
      rw [xcd_B] at hpx
      refine z_catch B hLF htab (by decide) [] ⟨0, 6, 7, 13⟩ [⟨0, 6, 11, 16⟩] rfl (fun _ h => absurd h List.not_mem_nil) (by decide) (by decide) (List.mem_of_getElem? (i := 1) rfl) (fun q => ?_)
      refine z_astore_n (lv1 := [(3, .ref q), (0, .ref b), (1, .int x), (2, .int y)]) B dL_burns_7 rfl (by decide) rfl ?_
      refine z_ldc (v := (-2000000001)) B 3 rfl dL_burns_8 ?_
      exact z_mret B hAe hr dL_burns_10 rfl (by decide) (by decide) hpx
    · have hpx := hX _ _ hx
      rw [xcd_A] at hpx
      refine z_catch B hLF htab (by decide) [⟨0, 6, 7, 13⟩] ⟨0, 6, 11, 16⟩ [] rfl (List.forall_mem_cons.mpr ⟨⟨by decide, "java/lang/IndexOutOfBoundsException", by decide, List.mem_of_getElem? (i := 1) rfl, by decide⟩, (fun _ h => absurd h List.not_mem_nil)⟩) (by decide) (by decide) (List.mem_of_getElem? (i := 2) rfl) (fun q => ?_)
      refine z_astore_n (lv1 := [(3, .ref q), (0, .ref b), (1, .int x), (2, .int y)]) B dL_burns_11 rfl (by decide) rfl ?_
      refine z_ldc (v := (-2000000002)) B 4 rfl dL_burns_12 ?_
      exact z_mret B hAe hr dL_burns_14 rfl (by decide) (by decide) hpx
  · exact z_mret B hAe hr dL_burns_6 rfl (by decide) (by decide) (hN _ _ hp)
set_option maxHeartbeats 4000000 in
set_option maxRecDepth 100000 in
theorem wr_alters (l : Launch) (D : va_G) (g : zG) (b : Nat) (wc : va_W) (fs : List Value) (hr0 : wc[0]? = some (b, .inr (6, fs))) (x : Int32) (y : Int32) (z : Int32) (P : Int32 → va_W → Prop) (xp : String → va_W → Prop) (post : Int32 → va_W → Prop) (hN : ∀ r w, P r w → post r w) (hX : ∀ E w, xp E w → post (xcd E) w) (hE : ∀ E w, xp E w → E = "java/lang/IndexOutOfBoundsException" ∨ E = "java/lang/IllegalArgumentException" ∨ E = "java/lang/IllegalStateException") (hM : zThrL l yX6_alter wsX6_alter { frames := 7, cells := 3, slots := 18, locals := 103 } D (zT g) wc [.ref b, .int x, .int y, .int z] P xp 3 18) : zWrp l yL_alters wsL_alters { frames := 8, cells := 3, slots := 18, locals := 126 } D (zT g) wc [.ref b, .int x, .int y, .int z] post 3 18 := by
  refine zWrp_of (cc := cL_alters) (maxL := 5) (ret := (some .int)) (own := RL) (hh := [(0, 7, 8, 13), (0, 7, 13, 16), (0, 7, 18, 19)]) [(0, .ref b), (1, .int x), (2, .int y), (3, .int z)] (by decide) rfl rfl rfl (Nat.le_of_ble_eq_true rfl) ?_
  intro X A hAe hl B hr htab hLF
  refine z_aload_n B 0 dL_alters_0 rfl rfl ?_
  refine z_iload_n B 1 dL_alters_1 rfl rfl ?_
  refine z_iload_n B 2 dL_alters_2 rfl rfl ?_
  refine z_iload_n B 3 dL_alters_3 rfl rfl ?_
  refine z_w (w' := [] ++ wc) rfl ?_
  refine z_callC (As := [.int x, .int y, .int z]) (st := []) (C := RX6) (T := TX6) (N := 6) (ci := 6) (l := l) B hLF hl hM gL_alters_X6_alter rfl ⟨rfl, rfl⟩ nm_X6_alter ⟨by decide, by decide⟩ 0 hr0 rfl rfl (Nat.le_of_ble_eq_true rfl) dL_alters_4 rfl rfl (by decide) (by decide) (fun E w1 hx => ?_) (fun r w1 hp => ?_)
  · rcases hE E w1 hx with rfl | rfl | rfl
    · have hpx := hX _ _ hx
      rw [xcd_B] at hpx
      refine z_catch B hLF htab (by decide) [] ⟨0, 7, 8, 13⟩ [⟨0, 7, 13, 16⟩, ⟨0, 7, 18, 19⟩] rfl (fun _ h => absurd h List.not_mem_nil) (by decide) (by decide) (List.mem_of_getElem? (i := 1) rfl) (fun q => ?_)
      refine z_astore (lv1 := [(4, .ref q), (0, .ref b), (1, .int x), (2, .int y), (3, .int z)]) B dL_alters_8 (by decide) rfl ?_
      refine z_ldc (v := (-2000000001)) B 4 rfl dL_alters_10 ?_
      exact z_mret B hAe hr dL_alters_12 rfl (by decide) (by decide) hpx
    · have hpx := hX _ _ hx
      rw [xcd_A] at hpx
      refine z_catch B hLF htab (by decide) [⟨0, 7, 8, 13⟩] ⟨0, 7, 13, 16⟩ [⟨0, 7, 18, 19⟩] rfl (List.forall_mem_cons.mpr ⟨⟨by decide, "java/lang/IndexOutOfBoundsException", by decide, List.mem_of_getElem? (i := 1) rfl, by decide⟩, (fun _ h => absurd h List.not_mem_nil)⟩) (by decide) (by decide) (List.mem_of_getElem? (i := 2) rfl) (fun q => ?_)
      refine z_astore (lv1 := [(4, .ref q), (0, .ref b), (1, .int x), (2, .int y), (3, .int z)]) B dL_alters_13 (by decide) rfl ?_
      refine z_ldc (v := (-2000000002)) B 5 rfl dL_alters_15 ?_
      exact z_mret B hAe hr dL_alters_17 rfl (by decide) (by decide) hpx
    · have hpx := hX _ _ hx
      rw [xcd_S] at hpx
      refine z_catch B hLF htab (by decide) [⟨0, 7, 8, 13⟩, ⟨0, 7, 13, 16⟩] ⟨0, 7, 18, 19⟩ [] rfl (List.forall_mem_cons.mpr ⟨⟨by decide, "java/lang/IndexOutOfBoundsException", by decide, List.mem_of_getElem? (i := 1) rfl, by decide⟩, (List.forall_mem_cons.mpr ⟨⟨by decide, "java/lang/IllegalArgumentException", by decide, List.mem_of_getElem? (i := 2) rfl, by decide⟩, (fun _ h => absurd h List.not_mem_nil)⟩)⟩) (by decide) (by decide) (List.mem_of_getElem? (i := 3) rfl) (fun q => ?_)
      refine z_astore (lv1 := [(4, .ref q), (0, .ref b), (1, .int x), (2, .int y), (3, .int z)]) B dL_alters_18 (by decide) rfl ?_
      refine z_ldc (v := (-2000000003)) B 6 rfl dL_alters_20 ?_
      exact z_mret B hAe hr dL_alters_22 rfl (by decide) (by decide) hpx
  · exact z_mret B hAe hr dL_alters_7 rfl (by decide) (by decide) (hN _ _ hp)
set_option maxHeartbeats 4000000 in
set_option maxRecDepth 100000 in
theorem wr_copies (l : Launch) (D : va_G) (g : zG) (b : Nat) (wc : va_W) (fs : List Value) (hr0 : wc[0]? = some (b, .inr (6, fs))) (P : Int32 → va_W → Prop) (xp : String → va_W → Prop) (post : Int32 → va_W → Prop) (hN : ∀ r w, P r w → post r w) (hX : ∀ E w, xp E w → post (xcd E) w) (hE : ∀ E w, xp E w → E = "java/lang/IllegalStateException") (hM : zThrL l yX6_copy wsX6_copy { frames := 7, cells := 5, slots := 413, locals := 110 } D (zT g) wc [.ref b] P xp 5 413) : zWrp l yL_copies wsL_copies { frames := 8, cells := 5, slots := 413, locals := 130 } D (zT g) wc [.ref b] post 5 413 := by
  refine zWrp_of (cc := cL_copies) (maxL := 2) (ret := (some .int)) (own := RL) (hh := [(0, 4, 5, 19)]) [(0, .ref b)] (by decide) rfl rfl rfl (Nat.le_of_ble_eq_true rfl) ?_
  intro X A hAe hl B hr htab hLF
  refine z_aload_n B 0 dL_copies_0 rfl rfl ?_
  refine z_w (w' := [] ++ wc) rfl ?_
  refine z_callC (As := []) (st := []) (C := RX6) (T := TX6) (N := 6) (ci := 6) (l := l) B hLF hl hM gL_copies_X6_copy rfl ⟨rfl, rfl⟩ nm_X6_copy ⟨by decide, by decide⟩ 0 hr0 rfl rfl (Nat.le_of_ble_eq_true rfl) dL_copies_1 rfl rfl (by decide) (by decide) (fun E w1 hx => ?_) (fun r w1 hp => ?_)
  · rcases hE E w1 hx with rfl
    · have hpx := hX _ _ hx
      rw [xcd_S] at hpx
      refine z_catch B hLF htab (by decide) [] ⟨0, 4, 5, 19⟩ [] rfl (fun _ h => absurd h List.not_mem_nil) (by decide) (by decide) (List.mem_of_getElem? (i := 1) rfl) (fun q => ?_)
      refine z_astore_n (lv1 := [(1, .ref q), (0, .ref b)]) B dL_copies_5 rfl (by decide) rfl ?_
      refine z_ldc (v := (-2000000003)) B 2 rfl dL_copies_6 ?_
      exact z_mret B hAe hr dL_copies_8 rfl (by decide) (by decide) hpx
  · exact z_mret B hAe hr dL_copies_4 rfl (by decide) (by decide) (hN _ _ hp)
set_option maxHeartbeats 4000000 in
set_option maxRecDepth 100000 in
theorem wr_copiesFrom (l : Launch) (D : va_G) (g : zG) (b : Nat) (wc : va_W) (fs : List Value) (hr0 : wc[0]? = some (b, .inr (6, fs))) (x : Int32) (P : Int32 → va_W → Prop) (xp : String → va_W → Prop) (post : Int32 → va_W → Prop) (hN : ∀ r w, P r w → post r w) (hX : ∀ E w, xp E w → post (xcd E) w) (hE : ∀ E w, xp E w → E = "java/lang/IndexOutOfBoundsException" ∨ E = "java/lang/IllegalStateException") (hM : zThrL l yX6_copyFrom wsX6_copyFrom { frames := 7, cells := 6, slots := 419, locals := 110 } D (zT g) wc [.ref b, .int x] P xp 6 419) : zWrp l yL_copiesFrom wsL_copiesFrom { frames := 8, cells := 6, slots := 419, locals := 132 } D (zT g) wc [.ref b, .int x] post 6 419 := by
  refine zWrp_of (cc := cL_copiesFrom) (maxL := 3) (ret := (some .int)) (own := RL) (hh := [(0, 5, 6, 13), (0, 5, 10, 19)]) [(0, .ref b), (1, .int x)] (by decide) rfl rfl rfl (Nat.le_of_ble_eq_true rfl) ?_
  intro X A hAe hl B hr htab hLF
  refine z_aload_n B 0 dL_copiesFrom_0 rfl rfl ?_
  refine z_iload_n B 1 dL_copiesFrom_1 rfl rfl ?_
  refine z_w (w' := [] ++ wc) rfl ?_
  refine z_callC (As := [.int x]) (st := []) (C := RX6) (T := TX6) (N := 6) (ci := 6) (l := l) B hLF hl hM gL_copiesFrom_X6_copyFrom rfl ⟨rfl, rfl⟩ nm_X6_copyFrom ⟨by decide, by decide⟩ 0 hr0 rfl rfl (Nat.le_of_ble_eq_true rfl) dL_copiesFrom_2 rfl rfl (by decide) (by decide) (fun E w1 hx => ?_) (fun r w1 hp => ?_)
  · rcases hE E w1 hx with rfl | rfl
    · have hpx := hX _ _ hx
      rw [xcd_B] at hpx
      refine z_catch B hLF htab (by decide) [] ⟨0, 5, 6, 13⟩ [⟨0, 5, 10, 19⟩] rfl (fun _ h => absurd h List.not_mem_nil) (by decide) (by decide) (List.mem_of_getElem? (i := 1) rfl) (fun q => ?_)
      refine z_astore_n (lv1 := [(2, .ref q), (0, .ref b), (1, .int x)]) B dL_copiesFrom_6 rfl (by decide) rfl ?_
      refine z_ldc (v := (-2000000001)) B 3 rfl dL_copiesFrom_7 ?_
      exact z_mret B hAe hr dL_copiesFrom_9 rfl (by decide) (by decide) hpx
    · have hpx := hX _ _ hx
      rw [xcd_S] at hpx
      refine z_catch B hLF htab (by decide) [⟨0, 5, 6, 13⟩] ⟨0, 5, 10, 19⟩ [] rfl (List.forall_mem_cons.mpr ⟨⟨by decide, "java/lang/IndexOutOfBoundsException", by decide, List.mem_of_getElem? (i := 1) rfl, by decide⟩, (fun _ h => absurd h List.not_mem_nil)⟩) (by decide) (by decide) (List.mem_of_getElem? (i := 2) rfl) (fun q => ?_)
      refine z_astore_n (lv1 := [(2, .ref q), (0, .ref b), (1, .int x)]) B dL_copiesFrom_10 rfl (by decide) rfl ?_
      refine z_ldc (v := (-2000000003)) B 4 rfl dL_copiesFrom_11 ?_
      exact z_mret B hAe hr dL_copiesFrom_13 rfl (by decide) (by decide) hpx
  · exact z_mret B hAe hr dL_copiesFrom_5 rfl (by decide) (by decide) (hN _ _ hp)
set_option maxHeartbeats 4000000 in
set_option maxRecDepth 100000 in
theorem wr_carries (l : Launch) (D : va_G) (g : zG) (b : Nat) (wc : va_W) (fs : List Value) (hr0 : wc[0]? = some (b, .inr (6, fs))) (x : Int32) (y : Int32) (P : Int32 → va_W → Prop) (xp : String → va_W → Prop) (post : Int32 → va_W → Prop) (hN : ∀ r w, P r w → post r w) (hX : ∀ E w, xp E w → post (xcd E) w) (hE : ∀ E w, xp E w → E = "java/lang/IndexOutOfBoundsException") (hM : zThrL l yX6_carry wsX6_carry { frames := 7, cells := 1, slots := 6, locals := 104 } D (zT g) wc [.ref b, .int x, .int y] P xp 1 6) : zWrp l yL_carries wsL_carries { frames := 8, cells := 1, slots := 6, locals := 127 } D (zT g) wc [.ref b, .int x, .int y] post 1 6 := by
  refine zWrp_of (cc := cL_carries) (maxL := 4) (ret := (some .int)) (own := RL) (hh := [(0, 6, 7, 13)]) [(0, .ref b), (1, .int x), (2, .int y)] (by decide) rfl rfl rfl (Nat.le_of_ble_eq_true rfl) ?_
  intro X A hAe hl B hr htab hLF
  refine z_aload_n B 0 dL_carries_0 rfl rfl ?_
  refine z_iload_n B 1 dL_carries_1 rfl rfl ?_
  refine z_iload_n B 2 dL_carries_2 rfl rfl ?_
  refine z_w (w' := [] ++ wc) rfl ?_
  refine z_callC (As := [.int x, .int y]) (st := []) (C := RX6) (T := TX6) (N := 6) (ci := 6) (l := l) B hLF hl hM gL_carries_X6_carry rfl ⟨rfl, rfl⟩ nm_X6_carry ⟨by decide, by decide⟩ 0 hr0 rfl rfl (Nat.le_of_ble_eq_true rfl) dL_carries_3 rfl rfl (by decide) (by decide) (fun E w1 hx => ?_) (fun r w1 hp => ?_)
  · rcases hE E w1 hx with rfl
    · have hpx := hX _ _ hx
      rw [xcd_B] at hpx
      refine z_catch B hLF htab (by decide) [] ⟨0, 6, 7, 13⟩ [] rfl (fun _ h => absurd h List.not_mem_nil) (by decide) (by decide) (List.mem_of_getElem? (i := 1) rfl) (fun q => ?_)
      refine z_astore_n (lv1 := [(3, .ref q), (0, .ref b), (1, .int x), (2, .int y)]) B dL_carries_7 rfl (by decide) rfl ?_
      refine z_ldc (v := (-2000000001)) B 2 rfl dL_carries_8 ?_
      exact z_mret B hAe hr dL_carries_10 rfl (by decide) (by decide) hpx
  · exact z_mret B hAe hr dL_carries_6 rfl (by decide) (by decide) (hN _ _ hp)
set_option maxHeartbeats 4000000 in
set_option maxRecDepth 100000 in
theorem wr_rots (l : Launch) (D : va_G) (g : zG) (b : Nat) (wc : va_W) (fs : List Value) (hr0 : wc[0]? = some (b, .inr (6, fs))) (x : Int32) (y : Int32) (P : Int32 → va_W → Prop) (xp : String → va_W → Prop) (post : Int32 → va_W → Prop) (hN : ∀ r w, P r w → post r w) (hX : ∀ E w, xp E w → post (xcd E) w) (hE : ∀ E w, xp E w → E = "java/lang/IndexOutOfBoundsException") (hB : ∀ r w, P r w → r = 0 ∨ r = 1) (hM : zThrL l yX6_rot wsX6_rot { frames := 7, cells := 2, slots := 12, locals := 104 } D (zT g) wc [.ref b, .int x, .int y] P xp 2 12) : zWrp l yL_rots wsL_rots { frames := 8, cells := 2, slots := 12, locals := 127 } D (zT g) wc [.ref b, .int x, .int y] post 2 12 := by
  refine zWrp_of (cc := cL_rots) (maxL := 4) (ret := (some .int)) (own := RL) (hh := [(0, 14, 15, 13)]) [(0, .ref b), (1, .int x), (2, .int y)] (by decide) rfl rfl rfl (Nat.le_of_ble_eq_true rfl) ?_
  intro X A hAe hl B hr htab hLF
  refine z_aload_n B 0 dL_rots_0 rfl rfl ?_
  refine z_iload_n B 1 dL_rots_1 rfl rfl ?_
  refine z_iload_n B 2 dL_rots_2 rfl rfl ?_
  refine z_w (w' := [] ++ wc) rfl ?_
  refine z_callC (As := [.int x, .int y]) (st := []) (C := RX6) (T := TX6) (N := 6) (ci := 6) (l := l) B hLF hl hM gL_rots_X6_rot rfl ⟨rfl, rfl⟩ nm_X6_rot ⟨by decide, by decide⟩ 0 hr0 rfl rfl (Nat.le_of_ble_eq_true rfl) dL_rots_3 rfl rfl (by decide) (by decide) (fun E w1 hx => ?_) (fun r w1 hp => ?_)
  · rcases hE E w1 hx with rfl
    · have hpx := hX _ _ hx
      rw [xcd_B] at hpx
      refine z_catch B hLF htab (by decide) [] ⟨0, 14, 15, 13⟩ [] rfl (fun _ h => absurd h List.not_mem_nil) (by decide) (by decide) (List.mem_of_getElem? (i := 1) rfl) (fun q => ?_)
      refine z_astore_n (lv1 := [(3, .ref q), (0, .ref b), (1, .int x), (2, .int y)]) B dL_rots_15 rfl (by decide) rfl ?_
      refine z_ldc (v := (-2000000001)) B 2 rfl dL_rots_16 ?_
      exact z_mret B hAe hr dL_rots_18 rfl (by decide) (by decide) hpx
  · rcases hB r w1 hp with rfl | rfl
    · refine z_if_eq B 13 dL_rots_6 (by decide) (fun _ => ?_) (fun h => absurd rfl h)
      refine z_iconst (v := 0) B dL_rots_13 (by decide) ?_
      exact z_mret B hAe hr dL_rots_14 rfl (by decide) (by decide) (hN _ _ hp)
    · refine z_if_eq B 13 dL_rots_6 (by decide) (fun h => absurd h (by decide)) (fun _ => ?_)
      refine z_iconst (v := 1) B dL_rots_9 (by decide) ?_
      refine z_goto B 14 dL_rots_10 (by decide) ?_
      exact z_mret B hAe hr dL_rots_14 rfl (by decide) (by decide) (hN _ _ hp)
set_option maxHeartbeats 4000000 in
set_option maxRecDepth 100000 in
theorem wr_throwsAway (l : Launch) (D : va_G) (g : zG) (b : Nat) (wc : va_W) (fs : List Value) (hr0 : wc[0]? = some (b, .inr (6, fs))) (x : Int32) (P : Int32 → va_W → Prop) (xp : String → va_W → Prop) (post : Int32 → va_W → Prop) (hN : ∀ r w, P r w → post r w) (hX : ∀ E w, xp E w → post (xcd E) w) (hE : ∀ E w, xp E w → E = "java/lang/IndexOutOfBoundsException" ∨ E = "java/lang/IllegalStateException") (hM : zThrL l yX6_throwAway wsX6_throwAway { frames := 7, cells := 2, slots := 12, locals := 104 } D (zT g) wc [.ref b, .int x] P xp 2 12) : zWrp l yL_throwsAway wsL_throwsAway { frames := 8, cells := 2, slots := 12, locals := 126 } D (zT g) wc [.ref b, .int x] post 2 12 := by
  refine zWrp_of (cc := cL_throwsAway) (maxL := 3) (ret := (some .int)) (own := RL) (hh := [(0, 5, 6, 13), (0, 5, 10, 19)]) [(0, .ref b), (1, .int x)] (by decide) rfl rfl rfl (Nat.le_of_ble_eq_true rfl) ?_
  intro X A hAe hl B hr htab hLF
  refine z_aload_n B 0 dL_throwsAway_0 rfl rfl ?_
  refine z_iload_n B 1 dL_throwsAway_1 rfl rfl ?_
  refine z_w (w' := [] ++ wc) rfl ?_
  refine z_callC (As := [.int x]) (st := []) (C := RX6) (T := TX6) (N := 6) (ci := 6) (l := l) B hLF hl hM gL_throwsAway_X6_throwAway rfl ⟨rfl, rfl⟩ nm_X6_throwAway ⟨by decide, by decide⟩ 0 hr0 rfl rfl (Nat.le_of_ble_eq_true rfl) dL_throwsAway_2 rfl rfl (by decide) (by decide) (fun E w1 hx => ?_) (fun r w1 hp => ?_)
  · rcases hE E w1 hx with rfl | rfl
    · have hpx := hX _ _ hx
      rw [xcd_B] at hpx
      refine z_catch B hLF htab (by decide) [] ⟨0, 5, 6, 13⟩ [⟨0, 5, 10, 19⟩] rfl (fun _ h => absurd h List.not_mem_nil) (by decide) (by decide) (List.mem_of_getElem? (i := 1) rfl) (fun q => ?_)
      refine z_astore_n (lv1 := [(2, .ref q), (0, .ref b), (1, .int x)]) B dL_throwsAway_6 rfl (by decide) rfl ?_
      refine z_ldc (v := (-2000000001)) B 3 rfl dL_throwsAway_7 ?_
      exact z_mret B hAe hr dL_throwsAway_9 rfl (by decide) (by decide) hpx
    · have hpx := hX _ _ hx
      rw [xcd_S] at hpx
      refine z_catch B hLF htab (by decide) [⟨0, 5, 6, 13⟩] ⟨0, 5, 10, 19⟩ [] rfl (List.forall_mem_cons.mpr ⟨⟨by decide, "java/lang/IndexOutOfBoundsException", by decide, List.mem_of_getElem? (i := 1) rfl, by decide⟩, (fun _ h => absurd h List.not_mem_nil)⟩) (by decide) (by decide) (List.mem_of_getElem? (i := 2) rfl) (fun q => ?_)
      refine z_astore_n (lv1 := [(2, .ref q), (0, .ref b), (1, .int x)]) B dL_throwsAway_10 rfl (by decide) rfl ?_
      refine z_ldc (v := (-2000000003)) B 4 rfl dL_throwsAway_11 ?_
      exact z_mret B hAe hr dL_throwsAway_13 rfl (by decide) (by decide) hpx
  · exact z_mret B hAe hr dL_throwsAway_5 rfl (by decide) (by decide) (hN _ _ hp)
set_option maxHeartbeats 4000000 in
set_option maxRecDepth 100000 in
theorem wr_restores (l : Launch) (D : va_G) (g : zG) (b : Nat) (wc : va_W) (fs : List Value) (hr0 : wc[0]? = some (b, .inr (6, fs))) (x : Int32) (P : Int32 → va_W → Prop) (xp : String → va_W → Prop) (post : Int32 → va_W → Prop) (hN : ∀ r w, P r w → post r w) (hX : ∀ E w, xp E w → post (xcd E) w) (hE : ∀ E w, xp E w → E = "java/lang/IndexOutOfBoundsException" ∨ E = "java/lang/IllegalStateException") (hM : zThrL l yX6_restore wsX6_restore { frames := 7, cells := 2, slots := 12, locals := 104 } D (zT g) wc [.ref b, .int x] P xp 2 12) : zWrp l yL_restores wsL_restores { frames := 8, cells := 2, slots := 12, locals := 128 } D (zT g) wc [.ref b, .int x] post 2 12 := by
  refine zWrp_of (cc := cL_restores) (maxL := 3) (ret := (some .int)) (own := RL) (hh := [(0, 5, 6, 13), (0, 5, 10, 19)]) [(0, .ref b), (1, .int x)] (by decide) rfl rfl rfl (Nat.le_of_ble_eq_true rfl) ?_
  intro X A hAe hl B hr htab hLF
  refine z_aload_n B 0 dL_restores_0 rfl rfl ?_
  refine z_iload_n B 1 dL_restores_1 rfl rfl ?_
  refine z_w (w' := [] ++ wc) rfl ?_
  refine z_callC (As := [.int x]) (st := []) (C := RX6) (T := TX6) (N := 6) (ci := 6) (l := l) B hLF hl hM gL_restores_X6_restore rfl ⟨rfl, rfl⟩ nm_X6_restore ⟨by decide, by decide⟩ 0 hr0 rfl rfl (Nat.le_of_ble_eq_true rfl) dL_restores_2 rfl rfl (by decide) (by decide) (fun E w1 hx => ?_) (fun r w1 hp => ?_)
  · rcases hE E w1 hx with rfl | rfl
    · have hpx := hX _ _ hx
      rw [xcd_B] at hpx
      refine z_catch B hLF htab (by decide) [] ⟨0, 5, 6, 13⟩ [⟨0, 5, 10, 19⟩] rfl (fun _ h => absurd h List.not_mem_nil) (by decide) (by decide) (List.mem_of_getElem? (i := 1) rfl) (fun q => ?_)
      refine z_astore_n (lv1 := [(2, .ref q), (0, .ref b), (1, .int x)]) B dL_restores_6 rfl (by decide) rfl ?_
      refine z_ldc (v := (-2000000001)) B 3 rfl dL_restores_7 ?_
      exact z_mret B hAe hr dL_restores_9 rfl (by decide) (by decide) hpx
    · have hpx := hX _ _ hx
      rw [xcd_S] at hpx
      refine z_catch B hLF htab (by decide) [⟨0, 5, 6, 13⟩] ⟨0, 5, 10, 19⟩ [] rfl (List.forall_mem_cons.mpr ⟨⟨by decide, "java/lang/IndexOutOfBoundsException", by decide, List.mem_of_getElem? (i := 1) rfl, by decide⟩, (fun _ h => absurd h List.not_mem_nil)⟩) (by decide) (by decide) (List.mem_of_getElem? (i := 2) rfl) (fun q => ?_)
      refine z_astore_n (lv1 := [(2, .ref q), (0, .ref b), (1, .int x)]) B dL_restores_10 rfl (by decide) rfl ?_
      refine z_ldc (v := (-2000000003)) B 4 rfl dL_restores_11 ?_
      exact z_mret B hAe hr dL_restores_13 rfl (by decide) (by decide) hpx
  · exact z_mret B hAe hr dL_restores_5 rfl (by decide) (by decide) (hN _ _ hp)
set_option maxHeartbeats 4000000 in
set_option maxRecDepth 100000 in
theorem wr_opens (l : Launch) (D : va_G) (g : zG) (b : Nat) (wc : va_W) (fs : List Value) (hr0 : wc[0]? = some (b, .inr (6, fs))) (P : Int32 → va_W → Prop) (xp : String → va_W → Prop) (post : Int32 → va_W → Prop) (hN : ∀ r w, P r w → post r w) (hX : ∀ E w, xp E w → post (xcd E) w) (hE : ∀ E w, xp E w → E = "java/lang/IllegalStateException") (hM : zThrL l yX6_open wsX6_open { frames := 6, cells := 1, slots := 6, locals := 82 } D (zT g) wc [.ref b] P xp 1 6) : zWrp l yL_opens wsL_opens { frames := 7, cells := 1, slots := 6, locals := 102 } D (zT g) wc [.ref b] post 1 6 := by
  refine zWrp_of (cc := cL_opens) (maxL := 2) (ret := (some .int)) (own := RL) (hh := [(0, 4, 5, 19)]) [(0, .ref b)] (by decide) rfl rfl rfl (Nat.le_of_ble_eq_true rfl) ?_
  intro X A hAe hl B hr htab hLF
  refine z_aload_n B 0 dL_opens_0 rfl rfl ?_
  refine z_w (w' := [] ++ wc) rfl ?_
  refine z_callC (As := []) (st := []) (C := RX6) (T := TX6) (N := 6) (ci := 6) (l := l) B hLF hl hM gL_opens_X6_open rfl ⟨rfl, rfl⟩ nm_X6_open ⟨by decide, by decide⟩ 0 hr0 rfl rfl (Nat.le_of_ble_eq_true rfl) dL_opens_1 rfl rfl (by decide) (by decide) (fun E w1 hx => ?_) (fun r w1 hp => ?_)
  · rcases hE E w1 hx with rfl
    · have hpx := hX _ _ hx
      rw [xcd_S] at hpx
      refine z_catch B hLF htab (by decide) [] ⟨0, 4, 5, 19⟩ [] rfl (fun _ h => absurd h List.not_mem_nil) (by decide) (by decide) (List.mem_of_getElem? (i := 1) rfl) (fun q => ?_)
      refine z_astore_n (lv1 := [(1, .ref q), (0, .ref b)]) B dL_opens_5 rfl (by decide) rfl ?_
      refine z_ldc (v := (-2000000003)) B 2 rfl dL_opens_6 ?_
      exact z_mret B hAe hr dL_opens_8 rfl (by decide) (by decide) hpx
  · exact z_mret B hAe hr dL_opens_4 rfl (by decide) (by decide) (hN _ _ hp)
set_option maxHeartbeats 4000000 in
set_option maxRecDepth 100000 in
theorem wr_closes (l : Launch) (D : va_G) (g : zG) (b : Nat) (wc : va_W) (fs : List Value) (hr0 : wc[0]? = some (b, .inr (6, fs))) (x : Int32) (P : Int32 → va_W → Prop) (xp : String → va_W → Prop) (post : Int32 → va_W → Prop) (hN : ∀ r w, P r w → post r w) (hX : ∀ E w, xp E w → post (xcd E) w) (hE : ∀ E w, xp E w → E = "java/lang/IndexOutOfBoundsException" ∨ E = "java/lang/IllegalStateException") (hM : zThrL l yX6_close wsX6_close { frames := 7, cells := 2, slots := 12, locals := 103 } D (zT g) wc [.ref b, .int x] P xp 2 12) : zWrp l yL_closes wsL_closes { frames := 8, cells := 2, slots := 12, locals := 125 } D (zT g) wc [.ref b, .int x] post 2 12 := by
  refine zWrp_of (cc := cL_closes) (maxL := 3) (ret := (some .int)) (own := RL) (hh := [(0, 5, 6, 13), (0, 5, 10, 19)]) [(0, .ref b), (1, .int x)] (by decide) rfl rfl rfl (Nat.le_of_ble_eq_true rfl) ?_
  intro X A hAe hl B hr htab hLF
  refine z_aload_n B 0 dL_closes_0 rfl rfl ?_
  refine z_iload_n B 1 dL_closes_1 rfl rfl ?_
  refine z_w (w' := [] ++ wc) rfl ?_
  refine z_callC (As := [.int x]) (st := []) (C := RX6) (T := TX6) (N := 6) (ci := 6) (l := l) B hLF hl hM gL_closes_X6_close rfl ⟨rfl, rfl⟩ nm_X6_close ⟨by decide, by decide⟩ 0 hr0 rfl rfl (Nat.le_of_ble_eq_true rfl) dL_closes_2 rfl rfl (by decide) (by decide) (fun E w1 hx => ?_) (fun r w1 hp => ?_)
  · rcases hE E w1 hx with rfl | rfl
    · have hpx := hX _ _ hx
      rw [xcd_B] at hpx
      refine z_catch B hLF htab (by decide) [] ⟨0, 5, 6, 13⟩ [⟨0, 5, 10, 19⟩] rfl (fun _ h => absurd h List.not_mem_nil) (by decide) (by decide) (List.mem_of_getElem? (i := 1) rfl) (fun q => ?_)
      refine z_astore_n (lv1 := [(2, .ref q), (0, .ref b), (1, .int x)]) B dL_closes_6 rfl (by decide) rfl ?_
      refine z_ldc (v := (-2000000001)) B 3 rfl dL_closes_7 ?_
      exact z_mret B hAe hr dL_closes_9 rfl (by decide) (by decide) hpx
    · have hpx := hX _ _ hx
      rw [xcd_S] at hpx
      refine z_catch B hLF htab (by decide) [⟨0, 5, 6, 13⟩] ⟨0, 5, 10, 19⟩ [] rfl (List.forall_mem_cons.mpr ⟨⟨by decide, "java/lang/IndexOutOfBoundsException", by decide, List.mem_of_getElem? (i := 1) rfl, by decide⟩, (fun _ h => absurd h List.not_mem_nil)⟩) (by decide) (by decide) (List.mem_of_getElem? (i := 2) rfl) (fun q => ?_)
      refine z_astore_n (lv1 := [(2, .ref q), (0, .ref b), (1, .int x)]) B dL_closes_10 rfl (by decide) rfl ?_
      refine z_ldc (v := (-2000000003)) B 4 rfl dL_closes_11 ?_
      exact z_mret B hAe hr dL_closes_13 rfl (by decide) (by decide) hpx
  · exact z_mret B hAe hr dL_closes_5 rfl (by decide) (by decide) (hN _ _ hp)
set_option maxHeartbeats 4000000 in
set_option maxRecDepth 100000 in
theorem wr_holds (l : Launch) (D : va_G) (g : zG) (b : Nat) (wc : va_W) (fs : List Value) (hr0 : wc[0]? = some (b, .inr (6, fs))) (x : Int32) (y : Int32) (z : Int32) (u : Int32) (P : Int32 → va_W → Prop) (xp : String → va_W → Prop) (post : Int32 → va_W → Prop) (hN : ∀ r w, P r w → post r w) (hX : ∀ E w, xp E w → post (xcd E) w) (hE : ∀ E w, xp E w → E = "java/lang/IndexOutOfBoundsException" ∨ E = "java/lang/IllegalArgumentException" ∨ E = "java/lang/IllegalStateException") (hM : zThrL l yX6_hold wsX6_hold { frames := 7, cells := 3, slots := 18, locals := 103 } D (zT g) wc [.ref b, .int x, .int y, .int z, .int u] P xp 3 18) : zWrp l yL_holds wsL_holds { frames := 8, cells := 3, slots := 18, locals := 127 } D (zT g) wc [.ref b, .int x, .int y, .int z, .int u] post 3 18 := by
  refine zWrp_of (cc := cL_holds) (maxL := 6) (ret := (some .int)) (own := RL) (hh := [(0, 9, 10, 13), (0, 9, 15, 16), (0, 9, 20, 19)]) [(0, .ref b), (1, .int x), (2, .int y), (3, .int z), (4, .int u)] (by decide) rfl rfl rfl (Nat.le_of_ble_eq_true rfl) ?_
  intro X A hAe hl B hr htab hLF
  refine z_aload_n B 0 dL_holds_0 rfl rfl ?_
  refine z_iload_n B 1 dL_holds_1 rfl rfl ?_
  refine z_iload_n B 2 dL_holds_2 rfl rfl ?_
  refine z_iload_n B 3 dL_holds_3 rfl rfl ?_
  refine z_iload B 4 dL_holds_4 rfl ?_
  refine z_w (w' := [] ++ wc) rfl ?_
  refine z_callC (As := [.int x, .int y, .int z, .int u]) (st := []) (C := RX6) (T := TX6) (N := 6) (ci := 6) (l := l) B hLF hl hM gL_holds_X6_hold rfl ⟨rfl, rfl⟩ nm_X6_hold ⟨by decide, by decide⟩ 0 hr0 rfl rfl (Nat.le_of_ble_eq_true rfl) dL_holds_6 rfl rfl (by decide) (by decide) (fun E w1 hx => ?_) (fun r w1 hp => ?_)
  · rcases hE E w1 hx with rfl | rfl | rfl
    · have hpx := hX _ _ hx
      rw [xcd_B] at hpx
      refine z_catch B hLF htab (by decide) [] ⟨0, 9, 10, 13⟩ [⟨0, 9, 15, 16⟩, ⟨0, 9, 20, 19⟩] rfl (fun _ h => absurd h List.not_mem_nil) (by decide) (by decide) (List.mem_of_getElem? (i := 1) rfl) (fun q => ?_)
      refine z_astore (lv1 := [(5, .ref q), (0, .ref b), (1, .int x), (2, .int y), (3, .int z), (4, .int u)]) B dL_holds_10 (by decide) rfl ?_
      refine z_ldc (v := (-2000000001)) B 4 rfl dL_holds_12 ?_
      exact z_mret B hAe hr dL_holds_14 rfl (by decide) (by decide) hpx
    · have hpx := hX _ _ hx
      rw [xcd_A] at hpx
      refine z_catch B hLF htab (by decide) [⟨0, 9, 10, 13⟩] ⟨0, 9, 15, 16⟩ [⟨0, 9, 20, 19⟩] rfl (List.forall_mem_cons.mpr ⟨⟨by decide, "java/lang/IndexOutOfBoundsException", by decide, List.mem_of_getElem? (i := 1) rfl, by decide⟩, (fun _ h => absurd h List.not_mem_nil)⟩) (by decide) (by decide) (List.mem_of_getElem? (i := 2) rfl) (fun q => ?_)
      refine z_astore (lv1 := [(5, .ref q), (0, .ref b), (1, .int x), (2, .int y), (3, .int z), (4, .int u)]) B dL_holds_15 (by decide) rfl ?_
      refine z_ldc (v := (-2000000002)) B 5 rfl dL_holds_17 ?_
      exact z_mret B hAe hr dL_holds_19 rfl (by decide) (by decide) hpx
    · have hpx := hX _ _ hx
      rw [xcd_S] at hpx
      refine z_catch B hLF htab (by decide) [⟨0, 9, 10, 13⟩, ⟨0, 9, 15, 16⟩] ⟨0, 9, 20, 19⟩ [] rfl (List.forall_mem_cons.mpr ⟨⟨by decide, "java/lang/IndexOutOfBoundsException", by decide, List.mem_of_getElem? (i := 1) rfl, by decide⟩, (List.forall_mem_cons.mpr ⟨⟨by decide, "java/lang/IllegalArgumentException", by decide, List.mem_of_getElem? (i := 2) rfl, by decide⟩, (fun _ h => absurd h List.not_mem_nil)⟩)⟩) (by decide) (by decide) (List.mem_of_getElem? (i := 3) rfl) (fun q => ?_)
      refine z_astore (lv1 := [(5, .ref q), (0, .ref b), (1, .int x), (2, .int y), (3, .int z), (4, .int u)]) B dL_holds_20 (by decide) rfl ?_
      refine z_ldc (v := (-2000000003)) B 6 rfl dL_holds_22 ?_
      exact z_mret B hAe hr dL_holds_24 rfl (by decide) (by decide) hpx
  · exact z_mret B hAe hr dL_holds_9 rfl (by decide) (by decide) (hN _ _ hp)
set_option maxHeartbeats 4000000 in
set_option maxRecDepth 100000 in
theorem wr_strikes (l : Launch) (D : va_G) (g : zG) (b : Nat) (wc : va_W) (fs : List Value) (hr0 : wc[0]? = some (b, .inr (6, fs))) (x : Int32) (y : Int32) (P : Int32 → va_W → Prop) (xp : String → va_W → Prop) (post : Int32 → va_W → Prop) (hN : ∀ r w, P r w → post r w) (hX : ∀ E w, xp E w → post (xcd E) w) (hE : ∀ E w, xp E w → E = "java/lang/IndexOutOfBoundsException" ∨ E = "java/lang/IllegalStateException") (hM : zThrL l yX6_strike wsX6_strike { frames := 7, cells := 3, slots := 18, locals := 103 } D (zT g) wc [.ref b, .int x, .int y] P xp 3 18) : zWrp l yL_strikes wsL_strikes { frames := 8, cells := 3, slots := 18, locals := 125 } D (zT g) wc [.ref b, .int x, .int y] post 3 18 := by
  refine zWrp_of (cc := cL_strikes) (maxL := 4) (ret := (some .int)) (own := RL) (hh := [(0, 6, 7, 13), (0, 6, 11, 19)]) [(0, .ref b), (1, .int x), (2, .int y)] (by decide) rfl rfl rfl (Nat.le_of_ble_eq_true rfl) ?_
  intro X A hAe hl B hr htab hLF
  refine z_aload_n B 0 dL_strikes_0 rfl rfl ?_
  refine z_iload_n B 1 dL_strikes_1 rfl rfl ?_
  refine z_iload_n B 2 dL_strikes_2 rfl rfl ?_
  refine z_w (w' := [] ++ wc) rfl ?_
  refine z_callC (As := [.int x, .int y]) (st := []) (C := RX6) (T := TX6) (N := 6) (ci := 6) (l := l) B hLF hl hM gL_strikes_X6_strike rfl ⟨rfl, rfl⟩ nm_X6_strike ⟨by decide, by decide⟩ 0 hr0 rfl rfl (Nat.le_of_ble_eq_true rfl) dL_strikes_3 rfl rfl (by decide) (by decide) (fun E w1 hx => ?_) (fun r w1 hp => ?_)
  · rcases hE E w1 hx with rfl | rfl
    · have hpx := hX _ _ hx
      rw [xcd_B] at hpx
      refine z_catch B hLF htab (by decide) [] ⟨0, 6, 7, 13⟩ [⟨0, 6, 11, 19⟩] rfl (fun _ h => absurd h List.not_mem_nil) (by decide) (by decide) (List.mem_of_getElem? (i := 1) rfl) (fun q => ?_)
      refine z_astore_n (lv1 := [(3, .ref q), (0, .ref b), (1, .int x), (2, .int y)]) B dL_strikes_7 rfl (by decide) rfl ?_
      refine z_ldc (v := (-2000000001)) B 3 rfl dL_strikes_8 ?_
      exact z_mret B hAe hr dL_strikes_10 rfl (by decide) (by decide) hpx
    · have hpx := hX _ _ hx
      rw [xcd_S] at hpx
      refine z_catch B hLF htab (by decide) [⟨0, 6, 7, 13⟩] ⟨0, 6, 11, 19⟩ [] rfl (List.forall_mem_cons.mpr ⟨⟨by decide, "java/lang/IndexOutOfBoundsException", by decide, List.mem_of_getElem? (i := 1) rfl, by decide⟩, (fun _ h => absurd h List.not_mem_nil)⟩) (by decide) (by decide) (List.mem_of_getElem? (i := 2) rfl) (fun q => ?_)
      refine z_astore_n (lv1 := [(3, .ref q), (0, .ref b), (1, .int x), (2, .int y)]) B dL_strikes_11 rfl (by decide) rfl ?_
      refine z_ldc (v := (-2000000003)) B 4 rfl dL_strikes_12 ?_
      exact z_mret B hAe hr dL_strikes_14 rfl (by decide) (by decide) hpx
  · exact z_mret B hAe hr dL_strikes_6 rfl (by decide) (by decide) (hN _ _ hp)
set_option maxHeartbeats 4000000 in
set_option maxRecDepth 100000 in
theorem wr_state (l : Launch) (D : va_G) (g : zG) (b : Nat) (wc : va_W) (fs : List Value) (hr0 : wc[0]? = some (b, .inr (6, fs))) (x : Int32) (P : Int32 → va_W → Prop) (xp : String → va_W → Prop) (post : Int32 → va_W → Prop) (hN : ∀ r w, P r w → post r w) (hX : ∀ E w, xp E w → post (xcd E) w) (hE : ∀ E w, xp E w → E = "java/lang/IndexOutOfBoundsException") (hM : zThrL l yX6_state wsX6_state { frames := 7, cells := 1, slots := 6, locals := 103 } D (zT g) wc [.ref b, .int x] P xp 1 6) : zWrp l yL_state wsL_state { frames := 8, cells := 1, slots := 6, locals := 124 } D (zT g) wc [.ref b, .int x] post 1 6 := by
  refine zWrp_of (cc := cL_state) (maxL := 3) (ret := (some .int)) (own := RL) (hh := [(0, 5, 6, 13)]) [(0, .ref b), (1, .int x)] (by decide) rfl rfl rfl (Nat.le_of_ble_eq_true rfl) ?_
  intro X A hAe hl B hr htab hLF
  refine z_aload_n B 0 dL_state_0 rfl rfl ?_
  refine z_iload_n B 1 dL_state_1 rfl rfl ?_
  refine z_w (w' := [] ++ wc) rfl ?_
  refine z_callC (As := [.int x]) (st := []) (C := RX6) (T := TX6) (N := 6) (ci := 6) (l := l) B hLF hl hM gL_state_X6_state rfl ⟨rfl, rfl⟩ nm_X6_state ⟨by decide, by decide⟩ 0 hr0 rfl rfl (Nat.le_of_ble_eq_true rfl) dL_state_2 rfl rfl (by decide) (by decide) (fun E w1 hx => ?_) (fun r w1 hp => ?_)
  · rcases hE E w1 hx with rfl
    · have hpx := hX _ _ hx
      rw [xcd_B] at hpx
      refine z_catch B hLF htab (by decide) [] ⟨0, 5, 6, 13⟩ [] rfl (fun _ h => absurd h List.not_mem_nil) (by decide) (by decide) (List.mem_of_getElem? (i := 1) rfl) (fun q => ?_)
      refine z_astore_n (lv1 := [(2, .ref q), (0, .ref b), (1, .int x)]) B dL_state_6 rfl (by decide) rfl ?_
      refine z_ldc (v := (-2000000001)) B 2 rfl dL_state_7 ?_
      exact z_mret B hAe hr dL_state_9 rfl (by decide) (by decide) hpx
  · exact z_mret B hAe hr dL_state_5 rfl (by decide) (by decide) (hN _ _ hp)
