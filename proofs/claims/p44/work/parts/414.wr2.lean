/-! the law's wrappers, the rest -/
set_option maxHeartbeats 4000000 in
set_option maxRecDepth 100000 in
theorem wr_isTrue (l : Launch) (D : va_G) (g : zG) (b : Nat) (wc : va_W) (fs : List Value) (hr0 : wc[0]? = some (b, .inr (6, fs))) (x : Int32) (P : Int32 → va_W → Prop) (xp : String → va_W → Prop) (post : Int32 → va_W → Prop) (hN : ∀ r w, P r w → post r w) (hX : ∀ E w, xp E w → post (xcd E) w) (hE : ∀ E w, xp E w → E = "java/lang/IndexOutOfBoundsException") (hB : ∀ r w, P r w → r = 0 ∨ r = 1) (hM : zThrL l yX6_isTrue wsX6_isTrue { frames := 7, cells := 1, slots := 6, locals := 103 } D (zT g) wc [.ref b, .int x] P xp 1 6) : zWrp l yL_isTrue wsL_isTrue { frames := 8, cells := 1, slots := 6, locals := 124 } D (zT g) wc [.ref b, .int x] post 1 6 := by
  refine zWrp_of (cc := cL_isTrue) (maxL := 3) (ret := (some .int)) (own := RL) (hh := [(0, 13, 14, 13)]) [(0, .ref b), (1, .int x)] (by decide) rfl rfl rfl (Nat.le_of_ble_eq_true rfl) ?_
  intro X A hAe hl B hr htab hLF
  refine z_aload_n B 0 dL_isTrue_0 rfl rfl ?_
  refine z_iload_n B 1 dL_isTrue_1 rfl rfl ?_
  refine z_w (w' := [] ++ wc) rfl ?_
  refine z_callC (As := [.int x]) (st := []) (C := RX6) (T := TX6) (N := 6) (ci := 6) (l := l) B hLF hl hM gL_isTrue_X6_isTrue rfl ⟨rfl, rfl⟩ nm_X6_isTrue ⟨by decide, by decide⟩ 0 hr0 rfl rfl (Nat.le_of_ble_eq_true rfl) dL_isTrue_2 rfl rfl (by decide) (by decide) (fun E w1 hx => ?_) (fun r w1 hp => ?_)
  · rcases hE E w1 hx with rfl
    · have hpx := hX _ _ hx
      rw [xcd_B] at hpx
      refine z_catch B hLF htab (by decide) [] ⟨0, 13, 14, 13⟩ [] rfl (fun _ h => absurd h List.not_mem_nil) (by decide) (by decide) (List.mem_of_getElem? (i := 1) rfl) (fun q => ?_)
      refine z_astore_n (lv1 := [(2, .ref q), (0, .ref b), (1, .int x)]) B dL_isTrue_14 rfl (by decide) rfl ?_
      refine z_ldc (v := (-2000000001)) B 2 rfl dL_isTrue_15 ?_
      exact z_mret B hAe hr dL_isTrue_17 rfl (by decide) (by decide) hpx
  · rcases hB r w1 hp with rfl | rfl
    · refine z_if_eq B 12 dL_isTrue_5 (by decide) (fun _ => ?_) (fun h => absurd rfl h)
      refine z_iconst (v := 0) B dL_isTrue_12 (by decide) ?_
      exact z_mret B hAe hr dL_isTrue_13 rfl (by decide) (by decide) (hN _ _ hp)
    · refine z_if_eq B 12 dL_isTrue_5 (by decide) (fun h => absurd h (by decide)) (fun _ => ?_)
      refine z_iconst (v := 1) B dL_isTrue_8 (by decide) ?_
      refine z_goto B 13 dL_isTrue_9 (by decide) ?_
      exact z_mret B hAe hr dL_isTrue_13 rfl (by decide) (by decide) (hN _ _ hp)
set_option maxHeartbeats 4000000 in
set_option maxRecDepth 100000 in
theorem wr_text (l : Launch) (D : va_G) (g : zG) (b : Nat) (wc : va_W) (fs : List Value) (hr0 : wc[0]? = some (b, .inr (6, fs))) (x : Int32) (P : Int32 → va_W → Prop) (xp : String → va_W → Prop) (post : Int32 → va_W → Prop) (hN : ∀ r w, P r w → post r w) (hX : ∀ E w, xp E w → post (xcd E) w) (hE : ∀ E w, xp E w → E = "java/lang/IndexOutOfBoundsException") (hM : zThrL l yX6_text wsX6_text { frames := 7, cells := 1, slots := 6, locals := 103 } D (zT g) wc [.ref b, .int x] P xp 1 6) : zWrp l yL_text wsL_text { frames := 8, cells := 1, slots := 6, locals := 124 } D (zT g) wc [.ref b, .int x] post 1 6 := by
  refine zWrp_of (cc := cL_text) (maxL := 3) (ret := (some .int)) (own := RL) (hh := [(0, 5, 6, 13)]) [(0, .ref b), (1, .int x)] (by decide) rfl rfl rfl (Nat.le_of_ble_eq_true rfl) ?_
  intro X A hAe hl B hr htab hLF
  refine z_aload_n B 0 dL_text_0 rfl rfl ?_
  refine z_iload_n B 1 dL_text_1 rfl rfl ?_
  refine z_w (w' := [] ++ wc) rfl ?_
  refine z_callC (As := [.int x]) (st := []) (C := RX6) (T := TX6) (N := 6) (ci := 6) (l := l) B hLF hl hM gL_text_X6_text rfl ⟨rfl, rfl⟩ nm_X6_text ⟨by decide, by decide⟩ 0 hr0 rfl rfl (Nat.le_of_ble_eq_true rfl) dL_text_2 rfl rfl (by decide) (by decide) (fun E w1 hx => ?_) (fun r w1 hp => ?_)
  · rcases hE E w1 hx with rfl
    · have hpx := hX _ _ hx
      rw [xcd_B] at hpx
      refine z_catch B hLF htab (by decide) [] ⟨0, 5, 6, 13⟩ [] rfl (fun _ h => absurd h List.not_mem_nil) (by decide) (by decide) (List.mem_of_getElem? (i := 1) rfl) (fun q => ?_)
      refine z_astore_n (lv1 := [(2, .ref q), (0, .ref b), (1, .int x)]) B dL_text_6 rfl (by decide) rfl ?_
      refine z_ldc (v := (-2000000001)) B 2 rfl dL_text_7 ?_
      exact z_mret B hAe hr dL_text_9 rfl (by decide) (by decide) hpx
  · exact z_mret B hAe hr dL_text_5 rfl (by decide) (by decide) (hN _ _ hp)
set_option maxHeartbeats 4000000 in
set_option maxRecDepth 100000 in
theorem wr_mark (l : Launch) (D : va_G) (g : zG) (b : Nat) (wc : va_W) (fs : List Value) (hr0 : wc[0]? = some (b, .inr (6, fs))) (x : Int32) (P : Int32 → va_W → Prop) (xp : String → va_W → Prop) (post : Int32 → va_W → Prop) (hN : ∀ r w, P r w → post r w) (hX : ∀ E w, xp E w → post (xcd E) w) (hE : ∀ E w, xp E w → E = "java/lang/IndexOutOfBoundsException") (hM : zThrL l yX6_mark wsX6_mark { frames := 7, cells := 1, slots := 6, locals := 103 } D (zT g) wc [.ref b, .int x] P xp 1 6) : zWrp l yL_mark wsL_mark { frames := 8, cells := 1, slots := 6, locals := 124 } D (zT g) wc [.ref b, .int x] post 1 6 := by
  refine zWrp_of (cc := cL_mark) (maxL := 3) (ret := (some .int)) (own := RL) (hh := [(0, 5, 6, 13)]) [(0, .ref b), (1, .int x)] (by decide) rfl rfl rfl (Nat.le_of_ble_eq_true rfl) ?_
  intro X A hAe hl B hr htab hLF
  refine z_aload_n B 0 dL_mark_0 rfl rfl ?_
  refine z_iload_n B 1 dL_mark_1 rfl rfl ?_
  refine z_w (w' := [] ++ wc) rfl ?_
  refine z_callC (As := [.int x]) (st := []) (C := RX6) (T := TX6) (N := 6) (ci := 6) (l := l) B hLF hl hM gL_mark_X6_mark rfl ⟨rfl, rfl⟩ nm_X6_mark ⟨by decide, by decide⟩ 0 hr0 rfl rfl (Nat.le_of_ble_eq_true rfl) dL_mark_2 rfl rfl (by decide) (by decide) (fun E w1 hx => ?_) (fun r w1 hp => ?_)
  · rcases hE E w1 hx with rfl
    · have hpx := hX _ _ hx
      rw [xcd_B] at hpx
      refine z_catch B hLF htab (by decide) [] ⟨0, 5, 6, 13⟩ [] rfl (fun _ h => absurd h List.not_mem_nil) (by decide) (by decide) (List.mem_of_getElem? (i := 1) rfl) (fun q => ?_)
      refine z_astore_n (lv1 := [(2, .ref q), (0, .ref b), (1, .int x)]) B dL_mark_6 rfl (by decide) rfl ?_
      refine z_ldc (v := (-2000000001)) B 2 rfl dL_mark_7 ?_
      exact z_mret B hAe hr dL_mark_9 rfl (by decide) (by decide) hpx
  · exact z_mret B hAe hr dL_mark_5 rfl (by decide) (by decide) (hN _ _ hp)
set_option maxHeartbeats 4000000 in
set_option maxRecDepth 100000 in
theorem wr_reversal (l : Launch) (D : va_G) (g : zG) (b : Nat) (wc : va_W) (fs : List Value) (hr0 : wc[0]? = some (b, .inr (6, fs))) (x : Int32) (P : Int32 → va_W → Prop) (xp : String → va_W → Prop) (post : Int32 → va_W → Prop) (hN : ∀ r w, P r w → post r w) (hX : ∀ E w, xp E w → post (xcd E) w) (hE : ∀ E w, xp E w → E = "java/lang/IndexOutOfBoundsException") (hM : zThrL l yX6_reversal wsX6_reversal { frames := 7, cells := 1, slots := 6, locals := 103 } D (zT g) wc [.ref b, .int x] P xp 1 6) : zWrp l yL_reversal wsL_reversal { frames := 8, cells := 1, slots := 6, locals := 124 } D (zT g) wc [.ref b, .int x] post 1 6 := by
  refine zWrp_of (cc := cL_reversal) (maxL := 3) (ret := (some .int)) (own := RL) (hh := [(0, 5, 6, 13)]) [(0, .ref b), (1, .int x)] (by decide) rfl rfl rfl (Nat.le_of_ble_eq_true rfl) ?_
  intro X A hAe hl B hr htab hLF
  refine z_aload_n B 0 dL_reversal_0 rfl rfl ?_
  refine z_iload_n B 1 dL_reversal_1 rfl rfl ?_
  refine z_w (w' := [] ++ wc) rfl ?_
  refine z_callC (As := [.int x]) (st := []) (C := RX6) (T := TX6) (N := 6) (ci := 6) (l := l) B hLF hl hM gL_reversal_X6_reversal rfl ⟨rfl, rfl⟩ nm_X6_reversal ⟨by decide, by decide⟩ 0 hr0 rfl rfl (Nat.le_of_ble_eq_true rfl) dL_reversal_2 rfl rfl (by decide) (by decide) (fun E w1 hx => ?_) (fun r w1 hp => ?_)
  · rcases hE E w1 hx with rfl
    · have hpx := hX _ _ hx
      rw [xcd_B] at hpx
      refine z_catch B hLF htab (by decide) [] ⟨0, 5, 6, 13⟩ [] rfl (fun _ h => absurd h List.not_mem_nil) (by decide) (by decide) (List.mem_of_getElem? (i := 1) rfl) (fun q => ?_)
      refine z_astore_n (lv1 := [(2, .ref q), (0, .ref b), (1, .int x)]) B dL_reversal_6 rfl (by decide) rfl ?_
      refine z_ldc (v := (-2000000001)) B 2 rfl dL_reversal_7 ?_
      exact z_mret B hAe hr dL_reversal_9 rfl (by decide) (by decide) hpx
  · exact z_mret B hAe hr dL_reversal_5 rfl (by decide) (by decide) (hN _ _ hp)
set_option maxHeartbeats 4000000 in
set_option maxRecDepth 100000 in
theorem wr_proves (l : Launch) (D : va_G) (g : zG) (b : Nat) (wc : va_W) (fs : List Value) (hr0 : wc[0]? = some (b, .inr (6, fs))) (x : Int32) (y : Int32) (P : Int32 → va_W → Prop) (xp : String → va_W → Prop) (post : Int32 → va_W → Prop) (hN : ∀ r w, P r w → post r w) (hX : ∀ E w, xp E w → post (xcd E) w) (hE : ∀ E w, xp E w → E = "java/lang/IndexOutOfBoundsException" ∨ E = "java/lang/IllegalArgumentException") (hB : ∀ r w, P r w → r = 0 ∨ r = 1) (hM : zThrL l yX6_proves wsX6_proves { frames := 7, cells := 2, slots := 12, locals := 103 } D (zT g) wc [.ref b, .int x, .int y] P xp 2 12) : zWrp l yL_proves wsL_proves { frames := 8, cells := 2, slots := 12, locals := 125 } D (zT g) wc [.ref b, .int x, .int y] post 2 12 := by
  refine zWrp_of (cc := cL_proves) (maxL := 4) (ret := (some .int)) (own := RL) (hh := [(0, 14, 15, 13), (0, 14, 19, 16)]) [(0, .ref b), (1, .int x), (2, .int y)] (by decide) rfl rfl rfl (Nat.le_of_ble_eq_true rfl) ?_
  intro X A hAe hl B hr htab hLF
  refine z_aload_n B 0 dL_proves_0 rfl rfl ?_
  refine z_iload_n B 1 dL_proves_1 rfl rfl ?_
  refine z_iload_n B 2 dL_proves_2 rfl rfl ?_
  refine z_w (w' := [] ++ wc) rfl ?_
  refine z_callC (As := [.int x, .int y]) (st := []) (C := RX6) (T := TX6) (N := 6) (ci := 6) (l := l) B hLF hl hM gL_proves_X6_proves rfl ⟨rfl, rfl⟩ nm_X6_proves ⟨by decide, by decide⟩ 0 hr0 rfl rfl (Nat.le_of_ble_eq_true rfl) dL_proves_3 rfl rfl (by decide) (by decide) (fun E w1 hx => ?_) (fun r w1 hp => ?_)
  · rcases hE E w1 hx with rfl | rfl
    · have hpx := hX _ _ hx
      rw [xcd_B] at hpx
      refine z_catch B hLF htab (by decide) [] ⟨0, 14, 15, 13⟩ [⟨0, 14, 19, 16⟩] rfl (fun _ h => absurd h List.not_mem_nil) (by decide) (by decide) (List.mem_of_getElem? (i := 1) rfl) (fun q => ?_)
      refine z_astore_n (lv1 := [(3, .ref q), (0, .ref b), (1, .int x), (2, .int y)]) B dL_proves_15 rfl (by decide) rfl ?_
      refine z_ldc (v := (-2000000001)) B 3 rfl dL_proves_16 ?_
      exact z_mret B hAe hr dL_proves_18 rfl (by decide) (by decide) hpx
    · have hpx := hX _ _ hx
      rw [xcd_A] at hpx
      refine z_catch B hLF htab (by decide) [⟨0, 14, 15, 13⟩] ⟨0, 14, 19, 16⟩ [] rfl (List.forall_mem_cons.mpr ⟨⟨by decide, "java/lang/IndexOutOfBoundsException", by decide, List.mem_of_getElem? (i := 1) rfl, by decide⟩, (fun _ h => absurd h List.not_mem_nil)⟩) (by decide) (by decide) (List.mem_of_getElem? (i := 2) rfl) (fun q => ?_)
      refine z_astore_n (lv1 := [(3, .ref q), (0, .ref b), (1, .int x), (2, .int y)]) B dL_proves_19 rfl (by decide) rfl ?_
      refine z_ldc (v := (-2000000002)) B 4 rfl dL_proves_20 ?_
      exact z_mret B hAe hr dL_proves_22 rfl (by decide) (by decide) hpx
  · rcases hB r w1 hp with rfl | rfl
    · refine z_if_eq B 13 dL_proves_6 (by decide) (fun _ => ?_) (fun h => absurd rfl h)
      refine z_iconst (v := 0) B dL_proves_13 (by decide) ?_
      exact z_mret B hAe hr dL_proves_14 rfl (by decide) (by decide) (hN _ _ hp)
    · refine z_if_eq B 13 dL_proves_6 (by decide) (fun h => absurd h (by decide)) (fun _ => ?_)
      refine z_iconst (v := 1) B dL_proves_9 (by decide) ?_
      refine z_goto B 14 dL_proves_10 (by decide) ?_
      exact z_mret B hAe hr dL_proves_14 rfl (by decide) (by decide) (hN _ _ hp)
set_option maxHeartbeats 4000000 in
set_option maxRecDepth 100000 in
theorem wr_proven (l : Launch) (D : va_G) (g : zG) (b : Nat) (wc : va_W) (fs : List Value) (hr0 : wc[0]? = some (b, .inr (6, fs))) (x : Int32) (y : Int32) (P : Int32 → va_W → Prop) (xp : String → va_W → Prop) (post : Int32 → va_W → Prop) (hN : ∀ r w, P r w → post r w) (hX : ∀ E w, xp E w → post (xcd E) w) (hE : ∀ E w, xp E w → E = "java/lang/IndexOutOfBoundsException") (hM : zThrL l yX6_proven wsX6_proven { frames := 7, cells := 2, slots := 12, locals := 103 } D (zT g) wc [.ref b, .int x, .int y] P xp 2 12) : zWrp l yL_proven wsL_proven { frames := 8, cells := 2, slots := 12, locals := 125 } D (zT g) wc [.ref b, .int x, .int y] post 2 12 := by
  refine zWrp_of (cc := cL_proven) (maxL := 4) (ret := (some .int)) (own := RL) (hh := [(0, 6, 7, 13)]) [(0, .ref b), (1, .int x), (2, .int y)] (by decide) rfl rfl rfl (Nat.le_of_ble_eq_true rfl) ?_
  intro X A hAe hl B hr htab hLF
  refine z_aload_n B 0 dL_proven_0 rfl rfl ?_
  refine z_iload_n B 1 dL_proven_1 rfl rfl ?_
  refine z_iload_n B 2 dL_proven_2 rfl rfl ?_
  refine z_w (w' := [] ++ wc) rfl ?_
  refine z_callC (As := [.int x, .int y]) (st := []) (C := RX6) (T := TX6) (N := 6) (ci := 6) (l := l) B hLF hl hM gL_proven_X6_proven rfl ⟨rfl, rfl⟩ nm_X6_proven ⟨by decide, by decide⟩ 0 hr0 rfl rfl (Nat.le_of_ble_eq_true rfl) dL_proven_3 rfl rfl (by decide) (by decide) (fun E w1 hx => ?_) (fun r w1 hp => ?_)
  · rcases hE E w1 hx with rfl
    · have hpx := hX _ _ hx
      rw [xcd_B] at hpx
      refine z_catch B hLF htab (by decide) [] ⟨0, 6, 7, 13⟩ [] rfl (fun _ h => absurd h List.not_mem_nil) (by decide) (by decide) (List.mem_of_getElem? (i := 1) rfl) (fun q => ?_)
      refine z_astore_n (lv1 := [(3, .ref q), (0, .ref b), (1, .int x), (2, .int y)]) B dL_proven_7 rfl (by decide) rfl ?_
      refine z_ldc (v := (-2000000001)) B 2 rfl dL_proven_8 ?_
      exact z_mret B hAe hr dL_proven_10 rfl (by decide) (by decide) hpx
  · exact z_mret B hAe hr dL_proven_6 rfl (by decide) (by decide) (hN _ _ hp)
set_option maxHeartbeats 4000000 in
set_option maxRecDepth 100000 in
theorem wr_balance (l : Launch) (D : va_G) (g : zG) (b : Nat) (wc : va_W) (fs : List Value) (hr0 : wc[0]? = some (b, .inr (6, fs))) (x : Int32) (y : Int32) (P : Int32 → va_W → Prop) (xp : String → va_W → Prop) (post : Int32 → va_W → Prop) (hN : ∀ r w, P r w → post r w) (hX : ∀ E w, xp E w → post (xcd E) w) (hE : ∀ E w, xp E w → E = "java/lang/IndexOutOfBoundsException" ∨ E = "java/lang/IllegalArgumentException") (hM : zThrL l yX6_balance wsX6_balance { frames := 7, cells := 2, slots := 12, locals := 103 } D (zT g) wc [.ref b, .int x, .int y] P xp 2 12) : zWrp l yL_balance wsL_balance { frames := 8, cells := 2, slots := 12, locals := 128 } D (zT g) wc [.ref b, .int x, .int y] post 2 12 := by
  refine zWrp_of (cc := cL_balance) (maxL := 4) (ret := (some .int)) (own := RL) (hh := [(0, 6, 7, 13), (0, 6, 11, 16)]) [(0, .ref b), (1, .int x), (2, .int y)] (by decide) rfl rfl rfl (Nat.le_of_ble_eq_true rfl) ?_
  intro X A hAe hl B hr htab hLF
  refine z_aload_n B 0 dL_balance_0 rfl rfl ?_
  refine z_iload_n B 1 dL_balance_1 rfl rfl ?_
  refine z_iload_n B 2 dL_balance_2 rfl rfl ?_
  refine z_w (w' := [] ++ wc) rfl ?_
  refine z_callC (As := [.int x, .int y]) (st := []) (C := RX6) (T := TX6) (N := 6) (ci := 6) (l := l) B hLF hl hM gL_balance_X6_balance rfl ⟨rfl, rfl⟩ nm_X6_balance ⟨by decide, by decide⟩ 0 hr0 rfl rfl (Nat.le_of_ble_eq_true rfl) dL_balance_3 rfl rfl (by decide) (by decide) (fun E w1 hx => ?_) (fun r w1 hp => ?_)
  · rcases hE E w1 hx with rfl | rfl
    · have hpx := hX _ _ hx
      rw [xcd_B] at hpx
      refine z_catch B hLF htab (by decide) [] ⟨0, 6, 7, 13⟩ [⟨0, 6, 11, 16⟩] rfl (fun _ h => absurd h List.not_mem_nil) (by decide) (by decide) (List.mem_of_getElem? (i := 1) rfl) (fun q => ?_)
      refine z_astore_n (lv1 := [(3, .ref q), (0, .ref b), (1, .int x), (2, .int y)]) B dL_balance_7 rfl (by decide) rfl ?_
      refine z_ldc (v := (-2000000001)) B 3 rfl dL_balance_8 ?_
      exact z_mret B hAe hr dL_balance_10 rfl (by decide) (by decide) hpx
    · have hpx := hX _ _ hx
      rw [xcd_A] at hpx
      refine z_catch B hLF htab (by decide) [⟨0, 6, 7, 13⟩] ⟨0, 6, 11, 16⟩ [] rfl (List.forall_mem_cons.mpr ⟨⟨by decide, "java/lang/IndexOutOfBoundsException", by decide, List.mem_of_getElem? (i := 1) rfl, by decide⟩, (fun _ h => absurd h List.not_mem_nil)⟩) (by decide) (by decide) (List.mem_of_getElem? (i := 2) rfl) (fun q => ?_)
      refine z_astore_n (lv1 := [(3, .ref q), (0, .ref b), (1, .int x), (2, .int y)]) B dL_balance_11 rfl (by decide) rfl ?_
      refine z_ldc (v := (-2000000002)) B 4 rfl dL_balance_12 ?_
      exact z_mret B hAe hr dL_balance_14 rfl (by decide) (by decide) hpx
  · exact z_mret B hAe hr dL_balance_6 rfl (by decide) (by decide) (hN _ _ hp)
set_option maxHeartbeats 4000000 in
set_option maxRecDepth 100000 in
theorem wr_byPages (l : Launch) (D : va_G) (g : zG) (b : Nat) (wc : va_W) (fs : List Value) (hr0 : wc[0]? = some (b, .inr (6, fs))) (x : Int32) (y : Int32) (P : Int32 → va_W → Prop) (xp : String → va_W → Prop) (post : Int32 → va_W → Prop) (hN : ∀ r w, P r w → post r w) (hX : ∀ E w, xp E w → post (xcd E) w) (hE : ∀ E w, xp E w → E = "java/lang/IndexOutOfBoundsException" ∨ E = "java/lang/IllegalArgumentException" ∨ E = "java/lang/IllegalStateException") (hM : zThrL l yX6_balanceByPages wsX6_balanceByPages { frames := 7, cells := 3, slots := 18, locals := 103 } D (zT g) wc [.ref b, .int x, .int y] P xp 3 18) : zWrp l yL_byPages wsL_byPages { frames := 8, cells := 3, slots := 18, locals := 129 } D (zT g) wc [.ref b, .int x, .int y] post 3 18 := by
  refine zWrp_of (cc := cL_byPages) (maxL := 4) (ret := (some .int)) (own := RL) (hh := [(0, 6, 7, 13), (0, 6, 11, 16), (0, 6, 15, 19)]) [(0, .ref b), (1, .int x), (2, .int y)] (by decide) rfl rfl rfl (Nat.le_of_ble_eq_true rfl) ?_
  intro X A hAe hl B hr htab hLF
  refine z_aload_n B 0 dL_byPages_0 rfl rfl ?_
  refine z_iload_n B 1 dL_byPages_1 rfl rfl ?_
  refine z_iload_n B 2 dL_byPages_2 rfl rfl ?_
  refine z_w (w' := [] ++ wc) rfl ?_
  refine z_callC (As := [.int x, .int y]) (st := []) (C := RX6) (T := TX6) (N := 6) (ci := 6) (l := l) B hLF hl hM gL_byPages_X6_balanceByPages rfl ⟨rfl, rfl⟩ nm_X6_balanceByPages ⟨by decide, by decide⟩ 0 hr0 rfl rfl (Nat.le_of_ble_eq_true rfl) dL_byPages_3 rfl rfl (by decide) (by decide) (fun E w1 hx => ?_) (fun r w1 hp => ?_)
  · rcases hE E w1 hx with rfl | rfl | rfl
    · have hpx := hX _ _ hx
      rw [xcd_B] at hpx
      refine z_catch B hLF htab (by decide) [] ⟨0, 6, 7, 13⟩ [⟨0, 6, 11, 16⟩, ⟨0, 6, 15, 19⟩] rfl (fun _ h => absurd h List.not_mem_nil) (by decide) (by decide) (List.mem_of_getElem? (i := 1) rfl) (fun q => ?_)
      refine z_astore_n (lv1 := [(3, .ref q), (0, .ref b), (1, .int x), (2, .int y)]) B dL_byPages_7 rfl (by decide) rfl ?_
      refine z_ldc (v := (-2000000001)) B 4 rfl dL_byPages_8 ?_
      exact z_mret B hAe hr dL_byPages_10 rfl (by decide) (by decide) hpx
    · have hpx := hX _ _ hx
      rw [xcd_A] at hpx
      refine z_catch B hLF htab (by decide) [⟨0, 6, 7, 13⟩] ⟨0, 6, 11, 16⟩ [⟨0, 6, 15, 19⟩] rfl (List.forall_mem_cons.mpr ⟨⟨by decide, "java/lang/IndexOutOfBoundsException", by decide, List.mem_of_getElem? (i := 1) rfl, by decide⟩, (fun _ h => absurd h List.not_mem_nil)⟩) (by decide) (by decide) (List.mem_of_getElem? (i := 2) rfl) (fun q => ?_)
      refine z_astore_n (lv1 := [(3, .ref q), (0, .ref b), (1, .int x), (2, .int y)]) B dL_byPages_11 rfl (by decide) rfl ?_
      refine z_ldc (v := (-2000000002)) B 5 rfl dL_byPages_12 ?_
      exact z_mret B hAe hr dL_byPages_14 rfl (by decide) (by decide) hpx
    · have hpx := hX _ _ hx
      rw [xcd_S] at hpx
      refine z_catch B hLF htab (by decide) [⟨0, 6, 7, 13⟩, ⟨0, 6, 11, 16⟩] ⟨0, 6, 15, 19⟩ [] rfl (List.forall_mem_cons.mpr ⟨⟨by decide, "java/lang/IndexOutOfBoundsException", by decide, List.mem_of_getElem? (i := 1) rfl, by decide⟩, (List.forall_mem_cons.mpr ⟨⟨by decide, "java/lang/IllegalArgumentException", by decide, List.mem_of_getElem? (i := 2) rfl, by decide⟩, (fun _ h => absurd h List.not_mem_nil)⟩)⟩) (by decide) (by decide) (List.mem_of_getElem? (i := 3) rfl) (fun q => ?_)
      refine z_astore_n (lv1 := [(3, .ref q), (0, .ref b), (1, .int x), (2, .int y)]) B dL_byPages_15 rfl (by decide) rfl ?_
      refine z_ldc (v := (-2000000003)) B 6 rfl dL_byPages_16 ?_
      exact z_mret B hAe hr dL_byPages_18 rfl (by decide) (by decide) hpx
  · exact z_mret B hAe hr dL_byPages_6 rfl (by decide) (by decide) (hN _ _ hp)
set_option maxHeartbeats 4000000 in
set_option maxRecDepth 100000 in
theorem wr_byCopies (l : Launch) (D : va_G) (g : zG) (b : Nat) (wc : va_W) (fs : List Value) (hr0 : wc[0]? = some (b, .inr (6, fs))) (x : Int32) (y : Int32) (P : Int32 → va_W → Prop) (xp : String → va_W → Prop) (post : Int32 → va_W → Prop) (hN : ∀ r w, P r w → post r w) (hX : ∀ E w, xp E w → post (xcd E) w) (hE : ∀ E w, xp E w → E = "java/lang/IndexOutOfBoundsException" ∨ E = "java/lang/IllegalArgumentException" ∨ E = "java/lang/IllegalStateException") (hM : zThrL l yX6_balanceByCopies wsX6_balanceByCopies { frames := 7, cells := 3, slots := 18, locals := 113 } D (zT g) wc [.ref b, .int x, .int y] P xp 3 18) : zWrp l yL_byCopies wsL_byCopies { frames := 8, cells := 3, slots := 18, locals := 138 } D (zT g) wc [.ref b, .int x, .int y] post 3 18 := by
  refine zWrp_of (cc := cL_byCopies) (maxL := 4) (ret := (some .int)) (own := RL) (hh := [(0, 6, 7, 13), (0, 6, 11, 16), (0, 6, 15, 19)]) [(0, .ref b), (1, .int x), (2, .int y)] (by decide) rfl rfl rfl (Nat.le_of_ble_eq_true rfl) ?_
  intro X A hAe hl B hr htab hLF
  refine z_aload_n B 0 dL_byCopies_0 rfl rfl ?_
  refine z_iload_n B 1 dL_byCopies_1 rfl rfl ?_
  refine z_iload_n B 2 dL_byCopies_2 rfl rfl ?_
  refine z_w (w' := [] ++ wc) rfl ?_
  refine z_callC (As := [.int x, .int y]) (st := []) (C := RX6) (T := TX6) (N := 6) (ci := 6) (l := l) B hLF hl hM gL_byCopies_X6_balanceByCopies rfl ⟨rfl, rfl⟩ nm_X6_balanceByCopies ⟨by decide, by decide⟩ 0 hr0 rfl rfl (Nat.le_of_ble_eq_true rfl) dL_byCopies_3 rfl rfl (by decide) (by decide) (fun E w1 hx => ?_) (fun r w1 hp => ?_)
  · rcases hE E w1 hx with rfl | rfl | rfl
    · have hpx := hX _ _ hx
      rw [xcd_B] at hpx
      refine z_catch B hLF htab (by decide) [] ⟨0, 6, 7, 13⟩ [⟨0, 6, 11, 16⟩, ⟨0, 6, 15, 19⟩] rfl (fun _ h => absurd h List.not_mem_nil) (by decide) (by decide) (List.mem_of_getElem? (i := 1) rfl) (fun q => ?_)
      refine z_astore_n (lv1 := [(3, .ref q), (0, .ref b), (1, .int x), (2, .int y)]) B dL_byCopies_7 rfl (by decide) rfl ?_
      refine z_ldc (v := (-2000000001)) B 4 rfl dL_byCopies_8 ?_
      exact z_mret B hAe hr dL_byCopies_10 rfl (by decide) (by decide) hpx
    · have hpx := hX _ _ hx
      rw [xcd_A] at hpx
      refine z_catch B hLF htab (by decide) [⟨0, 6, 7, 13⟩] ⟨0, 6, 11, 16⟩ [⟨0, 6, 15, 19⟩] rfl (List.forall_mem_cons.mpr ⟨⟨by decide, "java/lang/IndexOutOfBoundsException", by decide, List.mem_of_getElem? (i := 1) rfl, by decide⟩, (fun _ h => absurd h List.not_mem_nil)⟩) (by decide) (by decide) (List.mem_of_getElem? (i := 2) rfl) (fun q => ?_)
      refine z_astore_n (lv1 := [(3, .ref q), (0, .ref b), (1, .int x), (2, .int y)]) B dL_byCopies_11 rfl (by decide) rfl ?_
      refine z_ldc (v := (-2000000002)) B 5 rfl dL_byCopies_12 ?_
      exact z_mret B hAe hr dL_byCopies_14 rfl (by decide) (by decide) hpx
    · have hpx := hX _ _ hx
      rw [xcd_S] at hpx
      refine z_catch B hLF htab (by decide) [⟨0, 6, 7, 13⟩, ⟨0, 6, 11, 16⟩] ⟨0, 6, 15, 19⟩ [] rfl (List.forall_mem_cons.mpr ⟨⟨by decide, "java/lang/IndexOutOfBoundsException", by decide, List.mem_of_getElem? (i := 1) rfl, by decide⟩, (List.forall_mem_cons.mpr ⟨⟨by decide, "java/lang/IllegalArgumentException", by decide, List.mem_of_getElem? (i := 2) rfl, by decide⟩, (fun _ h => absurd h List.not_mem_nil)⟩)⟩) (by decide) (by decide) (List.mem_of_getElem? (i := 3) rfl) (fun q => ?_)
      refine z_astore_n (lv1 := [(3, .ref q), (0, .ref b), (1, .int x), (2, .int y)]) B dL_byCopies_15 rfl (by decide) rfl ?_
      refine z_ldc (v := (-2000000003)) B 6 rfl dL_byCopies_16 ?_
      exact z_mret B hAe hr dL_byCopies_18 rfl (by decide) (by decide) hpx
  · exact z_mret B hAe hr dL_byCopies_6 rfl (by decide) (by decide) (hN _ _ hp)
set_option maxHeartbeats 4000000 in
set_option maxRecDepth 100000 in
theorem wr_size (l : Launch) (D : va_G) (g : zG) (b : Nat) (wc : va_W) (fs : List Value) (hr0 : wc[0]? = some (b, .inr (6, fs))) (x : Int32) (P : Int32 → va_W → Prop) (xp : String → va_W → Prop) (post : Int32 → va_W → Prop) (hN : ∀ r w, P r w → post r w) (hX : ∀ E w, xp E w → post (xcd E) w) (hE : ∀ E w, xp E w → E = "java/lang/IndexOutOfBoundsException") (hM : zThrL l yX6_size wsX6_size { frames := 7, cells := 1, slots := 6, locals := 104 } D (zT g) wc [.ref b, .int x] P xp 1 6) : zWrp l yL_size wsL_size { frames := 8, cells := 1, slots := 6, locals := 126 } D (zT g) wc [.ref b, .int x] post 1 6 := by
  refine zWrp_of (cc := cL_size) (maxL := 3) (ret := (some .int)) (own := RL) (hh := [(0, 5, 6, 13)]) [(0, .ref b), (1, .int x)] (by decide) rfl rfl rfl (Nat.le_of_ble_eq_true rfl) ?_
  intro X A hAe hl B hr htab hLF
  refine z_aload_n B 0 dL_size_0 rfl rfl ?_
  refine z_iload_n B 1 dL_size_1 rfl rfl ?_
  refine z_w (w' := [] ++ wc) rfl ?_
  refine z_callC (As := [.int x]) (st := []) (C := RX6) (T := TX6) (N := 6) (ci := 6) (l := l) B hLF hl hM gL_size_X6_size rfl ⟨rfl, rfl⟩ nm_X6_size ⟨by decide, by decide⟩ 0 hr0 rfl rfl (Nat.le_of_ble_eq_true rfl) dL_size_2 rfl rfl (by decide) (by decide) (fun E w1 hx => ?_) (fun r w1 hp => ?_)
  · rcases hE E w1 hx with rfl
    · have hpx := hX _ _ hx
      rw [xcd_B] at hpx
      refine z_catch B hLF htab (by decide) [] ⟨0, 5, 6, 13⟩ [] rfl (fun _ h => absurd h List.not_mem_nil) (by decide) (by decide) (List.mem_of_getElem? (i := 1) rfl) (fun q => ?_)
      refine z_astore_n (lv1 := [(2, .ref q), (0, .ref b), (1, .int x)]) B dL_size_6 rfl (by decide) rfl ?_
      refine z_ldc (v := (-2000000001)) B 2 rfl dL_size_7 ?_
      exact z_mret B hAe hr dL_size_9 rfl (by decide) (by decide) hpx
  · exact z_mret B hAe hr dL_size_5 rfl (by decide) (by decide) (hN _ _ hp)
set_option maxHeartbeats 4000000 in
set_option maxRecDepth 100000 in
theorem wr_inVault (l : Launch) (D : va_G) (g : zG) (b : Nat) (wc : va_W) (fs : List Value) (hr0 : wc[0]? = some (b, .inr (6, fs))) (x : Int32) (P : Int32 → va_W → Prop) (xp : String → va_W → Prop) (post : Int32 → va_W → Prop) (hN : ∀ r w, P r w → post r w) (hX : ∀ E w, xp E w → post (xcd E) w) (hE : ∀ E w, xp E w → E = "java/lang/IndexOutOfBoundsException") (hB : ∀ r w, P r w → r = 0 ∨ r = 1) (hM : zThrL l yX6_isInVault wsX6_isInVault { frames := 7, cells := 1, slots := 6, locals := 104 } D (zT g) wc [.ref b, .int x] P xp 1 6) : zWrp l yL_inVault wsL_inVault { frames := 8, cells := 1, slots := 6, locals := 126 } D (zT g) wc [.ref b, .int x] post 1 6 := by
  refine zWrp_of (cc := cL_inVault) (maxL := 3) (ret := (some .int)) (own := RL) (hh := [(0, 13, 14, 13)]) [(0, .ref b), (1, .int x)] (by decide) rfl rfl rfl (Nat.le_of_ble_eq_true rfl) ?_
  intro X A hAe hl B hr htab hLF
  refine z_aload_n B 0 dL_inVault_0 rfl rfl ?_
  refine z_iload_n B 1 dL_inVault_1 rfl rfl ?_
  refine z_w (w' := [] ++ wc) rfl ?_
  refine z_callC (As := [.int x]) (st := []) (C := RX6) (T := TX6) (N := 6) (ci := 6) (l := l) B hLF hl hM gL_inVault_X6_isInVault rfl ⟨rfl, rfl⟩ nm_X6_isInVault ⟨by decide, by decide⟩ 0 hr0 rfl rfl (Nat.le_of_ble_eq_true rfl) dL_inVault_2 rfl rfl (by decide) (by decide) (fun E w1 hx => ?_) (fun r w1 hp => ?_)
  · rcases hE E w1 hx with rfl
    · have hpx := hX _ _ hx
      rw [xcd_B] at hpx
      refine z_catch B hLF htab (by decide) [] ⟨0, 13, 14, 13⟩ [] rfl (fun _ h => absurd h List.not_mem_nil) (by decide) (by decide) (List.mem_of_getElem? (i := 1) rfl) (fun q => ?_)
      refine z_astore_n (lv1 := [(2, .ref q), (0, .ref b), (1, .int x)]) B dL_inVault_14 rfl (by decide) rfl ?_
      refine z_ldc (v := (-2000000001)) B 2 rfl dL_inVault_15 ?_
      exact z_mret B hAe hr dL_inVault_17 rfl (by decide) (by decide) hpx
  · rcases hB r w1 hp with rfl | rfl
    · refine z_if_eq B 12 dL_inVault_5 (by decide) (fun _ => ?_) (fun h => absurd rfl h)
      refine z_iconst (v := 0) B dL_inVault_12 (by decide) ?_
      exact z_mret B hAe hr dL_inVault_13 rfl (by decide) (by decide) (hN _ _ hp)
    · refine z_if_eq B 12 dL_inVault_5 (by decide) (fun h => absurd h (by decide)) (fun _ => ?_)
      refine z_iconst (v := 1) B dL_inVault_8 (by decide) ?_
      refine z_goto B 13 dL_inVault_9 (by decide) ?_
      exact z_mret B hAe hr dL_inVault_13 rfl (by decide) (by decide) (hN _ _ hp)
set_option maxHeartbeats 4000000 in
set_option maxRecDepth 100000 in
theorem wr_stands (l : Launch) (D : va_G) (g : zG) (b : Nat) (wc : va_W) (fs : List Value) (hr0 : wc[0]? = some (b, .inr (6, fs))) (x : Int32) (y : Int32) (P : Int32 → va_W → Prop) (xp : String → va_W → Prop) (post : Int32 → va_W → Prop) (hN : ∀ r w, P r w → post r w) (hX : ∀ E w, xp E w → post (xcd E) w) (hE : ∀ E w, xp E w → E = "java/lang/IndexOutOfBoundsException") (hB : ∀ r w, P r w → r = 0 ∨ r = 1) (hM : zThrL l yX6_stands wsX6_stands { frames := 7, cells := 2, slots := 12, locals := 104 } D (zT g) wc [.ref b, .int x, .int y] P xp 2 12) : zWrp l yL_stands wsL_stands { frames := 8, cells := 2, slots := 12, locals := 127 } D (zT g) wc [.ref b, .int x, .int y] post 2 12 := by
  refine zWrp_of (cc := cL_stands) (maxL := 4) (ret := (some .int)) (own := RL) (hh := [(0, 14, 15, 13)]) [(0, .ref b), (1, .int x), (2, .int y)] (by decide) rfl rfl rfl (Nat.le_of_ble_eq_true rfl) ?_
  intro X A hAe hl B hr htab hLF
  refine z_aload_n B 0 dL_stands_0 rfl rfl ?_
  refine z_iload_n B 1 dL_stands_1 rfl rfl ?_
  refine z_iload_n B 2 dL_stands_2 rfl rfl ?_
  refine z_w (w' := [] ++ wc) rfl ?_
  refine z_callC (As := [.int x, .int y]) (st := []) (C := RX6) (T := TX6) (N := 6) (ci := 6) (l := l) B hLF hl hM gL_stands_X6_stands rfl ⟨rfl, rfl⟩ nm_X6_stands ⟨by decide, by decide⟩ 0 hr0 rfl rfl (Nat.le_of_ble_eq_true rfl) dL_stands_3 rfl rfl (by decide) (by decide) (fun E w1 hx => ?_) (fun r w1 hp => ?_)
  · rcases hE E w1 hx with rfl
    · have hpx := hX _ _ hx
      rw [xcd_B] at hpx
      refine z_catch B hLF htab (by decide) [] ⟨0, 14, 15, 13⟩ [] rfl (fun _ h => absurd h List.not_mem_nil) (by decide) (by decide) (List.mem_of_getElem? (i := 1) rfl) (fun q => ?_)
      refine z_astore_n (lv1 := [(3, .ref q), (0, .ref b), (1, .int x), (2, .int y)]) B dL_stands_15 rfl (by decide) rfl ?_
      refine z_ldc (v := (-2000000001)) B 2 rfl dL_stands_16 ?_
      exact z_mret B hAe hr dL_stands_18 rfl (by decide) (by decide) hpx
  · rcases hB r w1 hp with rfl | rfl
    · refine z_if_eq B 13 dL_stands_6 (by decide) (fun _ => ?_) (fun h => absurd rfl h)
      refine z_iconst (v := 0) B dL_stands_13 (by decide) ?_
      exact z_mret B hAe hr dL_stands_14 rfl (by decide) (by decide) (hN _ _ hp)
    · refine z_if_eq B 13 dL_stands_6 (by decide) (fun h => absurd h (by decide)) (fun _ => ?_)
      refine z_iconst (v := 1) B dL_stands_9 (by decide) ?_
      refine z_goto B 14 dL_stands_10 (by decide) ?_
      exact z_mret B hAe hr dL_stands_14 rfl (by decide) (by decide) (hN _ _ hp)
set_option maxHeartbeats 4000000 in
set_option maxRecDepth 100000 in
theorem wr_copiesOf (l : Launch) (D : va_G) (g : zG) (b : Nat) (wc : va_W) (fs : List Value) (hr0 : wc[0]? = some (b, .inr (6, fs))) (x : Int32) (P : Int32 → va_W → Prop) (xp : String → va_W → Prop) (post : Int32 → va_W → Prop) (hN : ∀ r w, P r w → post r w) (hX : ∀ E w, xp E w → post (xcd E) w) (hE : ∀ E w, xp E w → E = "java/lang/IndexOutOfBoundsException") (hM : zThrL l yX6_copiesOf wsX6_copiesOf { frames := 7, cells := 1, slots := 6, locals := 103 } D (zT g) wc [.ref b, .int x] P xp 1 6) : zWrp l yL_copiesOf wsL_copiesOf { frames := 8, cells := 1, slots := 6, locals := 124 } D (zT g) wc [.ref b, .int x] post 1 6 := by
  refine zWrp_of (cc := cL_copiesOf) (maxL := 3) (ret := (some .int)) (own := RL) (hh := [(0, 5, 6, 13)]) [(0, .ref b), (1, .int x)] (by decide) rfl rfl rfl (Nat.le_of_ble_eq_true rfl) ?_
  intro X A hAe hl B hr htab hLF
  refine z_aload_n B 0 dL_copiesOf_0 rfl rfl ?_
  refine z_iload_n B 1 dL_copiesOf_1 rfl rfl ?_
  refine z_w (w' := [] ++ wc) rfl ?_
  refine z_callC (As := [.int x]) (st := []) (C := RX6) (T := TX6) (N := 6) (ci := 6) (l := l) B hLF hl hM gL_copiesOf_X6_copiesOf rfl ⟨rfl, rfl⟩ nm_X6_copiesOf ⟨by decide, by decide⟩ 0 hr0 rfl rfl (Nat.le_of_ble_eq_true rfl) dL_copiesOf_2 rfl rfl (by decide) (by decide) (fun E w1 hx => ?_) (fun r w1 hp => ?_)
  · rcases hE E w1 hx with rfl
    · have hpx := hX _ _ hx
      rw [xcd_B] at hpx
      refine z_catch B hLF htab (by decide) [] ⟨0, 5, 6, 13⟩ [] rfl (fun _ h => absurd h List.not_mem_nil) (by decide) (by decide) (List.mem_of_getElem? (i := 1) rfl) (fun q => ?_)
      refine z_astore_n (lv1 := [(2, .ref q), (0, .ref b), (1, .int x)]) B dL_copiesOf_6 rfl (by decide) rfl ?_
      refine z_ldc (v := (-2000000001)) B 2 rfl dL_copiesOf_7 ?_
      exact z_mret B hAe hr dL_copiesOf_9 rfl (by decide) (by decide) hpx
  · exact z_mret B hAe hr dL_copiesOf_5 rfl (by decide) (by decide) (hN _ _ hp)
set_option maxHeartbeats 4000000 in
set_option maxRecDepth 100000 in
theorem wr_canRestore (l : Launch) (D : va_G) (g : zG) (b : Nat) (wc : va_W) (fs : List Value) (hr0 : wc[0]? = some (b, .inr (6, fs))) (x : Int32) (P : Int32 → va_W → Prop) (xp : String → va_W → Prop) (post : Int32 → va_W → Prop) (hN : ∀ r w, P r w → post r w) (hX : ∀ E w, xp E w → post (xcd E) w) (hE : ∀ E w, xp E w → E = "java/lang/IndexOutOfBoundsException") (hB : ∀ r w, P r w → r = 0 ∨ r = 1) (hM : zThrL l yX6_canRestore wsX6_canRestore { frames := 7, cells := 1, slots := 6, locals := 104 } D (zT g) wc [.ref b, .int x] P xp 1 6) : zWrp l yL_canRestore wsL_canRestore { frames := 8, cells := 1, slots := 6, locals := 126 } D (zT g) wc [.ref b, .int x] post 1 6 := by
  refine zWrp_of (cc := cL_canRestore) (maxL := 3) (ret := (some .int)) (own := RL) (hh := [(0, 13, 14, 13)]) [(0, .ref b), (1, .int x)] (by decide) rfl rfl rfl (Nat.le_of_ble_eq_true rfl) ?_
  intro X A hAe hl B hr htab hLF
  refine z_aload_n B 0 dL_canRestore_0 rfl rfl ?_
  refine z_iload_n B 1 dL_canRestore_1 rfl rfl ?_
  refine z_w (w' := [] ++ wc) rfl ?_
  refine z_callC (As := [.int x]) (st := []) (C := RX6) (T := TX6) (N := 6) (ci := 6) (l := l) B hLF hl hM gL_canRestore_X6_canRestore rfl ⟨rfl, rfl⟩ nm_X6_canRestore ⟨by decide, by decide⟩ 0 hr0 rfl rfl (Nat.le_of_ble_eq_true rfl) dL_canRestore_2 rfl rfl (by decide) (by decide) (fun E w1 hx => ?_) (fun r w1 hp => ?_)
  · rcases hE E w1 hx with rfl
    · have hpx := hX _ _ hx
      rw [xcd_B] at hpx
      refine z_catch B hLF htab (by decide) [] ⟨0, 13, 14, 13⟩ [] rfl (fun _ h => absurd h List.not_mem_nil) (by decide) (by decide) (List.mem_of_getElem? (i := 1) rfl) (fun q => ?_)
      refine z_astore_n (lv1 := [(2, .ref q), (0, .ref b), (1, .int x)]) B dL_canRestore_14 rfl (by decide) rfl ?_
      refine z_ldc (v := (-2000000001)) B 2 rfl dL_canRestore_15 ?_
      exact z_mret B hAe hr dL_canRestore_17 rfl (by decide) (by decide) hpx
  · rcases hB r w1 hp with rfl | rfl
    · refine z_if_eq B 12 dL_canRestore_5 (by decide) (fun _ => ?_) (fun h => absurd rfl h)
      refine z_iconst (v := 0) B dL_canRestore_12 (by decide) ?_
      exact z_mret B hAe hr dL_canRestore_13 rfl (by decide) (by decide) (hN _ _ hp)
    · refine z_if_eq B 12 dL_canRestore_5 (by decide) (fun h => absurd h (by decide)) (fun _ => ?_)
      refine z_iconst (v := 1) B dL_canRestore_8 (by decide) ?_
      refine z_goto B 13 dL_canRestore_9 (by decide) ?_
      exact z_mret B hAe hr dL_canRestore_13 rfl (by decide) (by decide) (hN _ _ hp)
set_option maxHeartbeats 4000000 in
set_option maxRecDepth 100000 in
theorem wr_audit (l : Launch) (D : va_G) (g : zG) (b : Nat) (wc : va_W) (fs : List Value) (hr0 : wc[0]? = some (b, .inr (6, fs))) (x : Int32) (P : Int32 → va_W → Prop) (xp : String → va_W → Prop) (post : Int32 → va_W → Prop) (hN : ∀ r w, P r w → post r w) (hX : ∀ E w, xp E w → post (xcd E) w) (hE : ∀ E w, xp E w → E = "java/lang/IndexOutOfBoundsException") (hM : zThrL l yX6_audit wsX6_audit { frames := 7, cells := 1, slots := 6, locals := 104 } D (zT g) wc [.ref b, .int x] P xp 1 6) : zWrp l yL_audit wsL_audit { frames := 8, cells := 1, slots := 6, locals := 128 } D (zT g) wc [.ref b, .int x] post 1 6 := by
  refine zWrp_of (cc := cL_audit) (maxL := 3) (ret := (some .int)) (own := RL) (hh := [(0, 5, 6, 13)]) [(0, .ref b), (1, .int x)] (by decide) rfl rfl rfl (Nat.le_of_ble_eq_true rfl) ?_
  intro X A hAe hl B hr htab hLF
  refine z_aload_n B 0 dL_audit_0 rfl rfl ?_
  refine z_iload_n B 1 dL_audit_1 rfl rfl ?_
  refine z_w (w' := [] ++ wc) rfl ?_
  refine z_callC (As := [.int x]) (st := []) (C := RX6) (T := TX6) (N := 6) (ci := 6) (l := l) B hLF hl hM gL_audit_X6_audit rfl ⟨rfl, rfl⟩ nm_X6_audit ⟨by decide, by decide⟩ 0 hr0 rfl rfl (Nat.le_of_ble_eq_true rfl) dL_audit_2 rfl rfl (by decide) (by decide) (fun E w1 hx => ?_) (fun r w1 hp => ?_)
  · rcases hE E w1 hx with rfl
    · have hpx := hX _ _ hx
      rw [xcd_B] at hpx
      refine z_catch B hLF htab (by decide) [] ⟨0, 5, 6, 13⟩ [] rfl (fun _ h => absurd h List.not_mem_nil) (by decide) (by decide) (List.mem_of_getElem? (i := 1) rfl) (fun q => ?_)
      refine z_astore_n (lv1 := [(2, .ref q), (0, .ref b), (1, .int x)]) B dL_audit_6 rfl (by decide) rfl ?_
      refine z_ldc (v := (-2000000001)) B 2 rfl dL_audit_7 ?_
      exact z_mret B hAe hr dL_audit_9 rfl (by decide) (by decide) hpx
  · exact z_mret B hAe hr dL_audit_5 rfl (by decide) (by decide) (hN _ _ hp)
set_option maxHeartbeats 4000000 in
set_option maxRecDepth 100000 in
theorem wr_isOpen (l : Launch) (D : va_G) (g : zG) (b : Nat) (wc : va_W) (fs : List Value) (hr0 : wc[0]? = some (b, .inr (6, fs))) (x : Int32) (P : Int32 → va_W → Prop) (xp : String → va_W → Prop) (post : Int32 → va_W → Prop) (hN : ∀ r w, P r w → post r w) (hX : ∀ E w, xp E w → post (xcd E) w) (hE : ∀ E w, xp E w → E = "java/lang/IndexOutOfBoundsException") (hB : ∀ r w, P r w → r = 0 ∨ r = 1) (hM : zThrL l yX6_isOpen wsX6_isOpen { frames := 7, cells := 1, slots := 6, locals := 103 } D (zT g) wc [.ref b, .int x] P xp 1 6) : zWrp l yL_isOpen wsL_isOpen { frames := 8, cells := 1, slots := 6, locals := 124 } D (zT g) wc [.ref b, .int x] post 1 6 := by
  refine zWrp_of (cc := cL_isOpen) (maxL := 3) (ret := (some .int)) (own := RL) (hh := [(0, 13, 14, 13)]) [(0, .ref b), (1, .int x)] (by decide) rfl rfl rfl (Nat.le_of_ble_eq_true rfl) ?_
  intro X A hAe hl B hr htab hLF
  refine z_aload_n B 0 dL_isOpen_0 rfl rfl ?_
  refine z_iload_n B 1 dL_isOpen_1 rfl rfl ?_
  refine z_w (w' := [] ++ wc) rfl ?_
  refine z_callC (As := [.int x]) (st := []) (C := RX6) (T := TX6) (N := 6) (ci := 6) (l := l) B hLF hl hM gL_isOpen_X6_isOpen rfl ⟨rfl, rfl⟩ nm_X6_isOpen ⟨by decide, by decide⟩ 0 hr0 rfl rfl (Nat.le_of_ble_eq_true rfl) dL_isOpen_2 rfl rfl (by decide) (by decide) (fun E w1 hx => ?_) (fun r w1 hp => ?_)
  · rcases hE E w1 hx with rfl
    · have hpx := hX _ _ hx
      rw [xcd_B] at hpx
      refine z_catch B hLF htab (by decide) [] ⟨0, 13, 14, 13⟩ [] rfl (fun _ h => absurd h List.not_mem_nil) (by decide) (by decide) (List.mem_of_getElem? (i := 1) rfl) (fun q => ?_)
      refine z_astore_n (lv1 := [(2, .ref q), (0, .ref b), (1, .int x)]) B dL_isOpen_14 rfl (by decide) rfl ?_
      refine z_ldc (v := (-2000000001)) B 2 rfl dL_isOpen_15 ?_
      exact z_mret B hAe hr dL_isOpen_17 rfl (by decide) (by decide) hpx
  · rcases hB r w1 hp with rfl | rfl
    · refine z_if_eq B 12 dL_isOpen_5 (by decide) (fun _ => ?_) (fun h => absurd rfl h)
      refine z_iconst (v := 0) B dL_isOpen_12 (by decide) ?_
      exact z_mret B hAe hr dL_isOpen_13 rfl (by decide) (by decide) (hN _ _ hp)
    · refine z_if_eq B 12 dL_isOpen_5 (by decide) (fun h => absurd h (by decide)) (fun _ => ?_)
      refine z_iconst (v := 1) B dL_isOpen_8 (by decide) ?_
      refine z_goto B 13 dL_isOpen_9 (by decide) ?_
      exact z_mret B hAe hr dL_isOpen_13 rfl (by decide) (by decide) (hN _ _ hp)
set_option maxHeartbeats 4000000 in
set_option maxRecDepth 100000 in
theorem wr_holders (l : Launch) (D : va_G) (g : zG) (b : Nat) (wc : va_W) (fs : List Value) (hr0 : wc[0]? = some (b, .inr (6, fs))) (x : Int32) (P : Int32 → va_W → Prop) (xp : String → va_W → Prop) (post : Int32 → va_W → Prop) (hN : ∀ r w, P r w → post r w) (hX : ∀ E w, xp E w → post (xcd E) w) (hE : ∀ E w, xp E w → E = "java/lang/IndexOutOfBoundsException") (hM : zThrL l yX6_holders wsX6_holders { frames := 7, cells := 1, slots := 6, locals := 103 } D (zT g) wc [.ref b, .int x] P xp 1 6) : zWrp l yL_holders wsL_holders { frames := 8, cells := 1, slots := 6, locals := 124 } D (zT g) wc [.ref b, .int x] post 1 6 := by
  refine zWrp_of (cc := cL_holders) (maxL := 3) (ret := (some .int)) (own := RL) (hh := [(0, 5, 6, 13)]) [(0, .ref b), (1, .int x)] (by decide) rfl rfl rfl (Nat.le_of_ble_eq_true rfl) ?_
  intro X A hAe hl B hr htab hLF
  refine z_aload_n B 0 dL_holders_0 rfl rfl ?_
  refine z_iload_n B 1 dL_holders_1 rfl rfl ?_
  refine z_w (w' := [] ++ wc) rfl ?_
  refine z_callC (As := [.int x]) (st := []) (C := RX6) (T := TX6) (N := 6) (ci := 6) (l := l) B hLF hl hM gL_holders_X6_holders rfl ⟨rfl, rfl⟩ nm_X6_holders ⟨by decide, by decide⟩ 0 hr0 rfl rfl (Nat.le_of_ble_eq_true rfl) dL_holders_2 rfl rfl (by decide) (by decide) (fun E w1 hx => ?_) (fun r w1 hp => ?_)
  · rcases hE E w1 hx with rfl
    · have hpx := hX _ _ hx
      rw [xcd_B] at hpx
      refine z_catch B hLF htab (by decide) [] ⟨0, 5, 6, 13⟩ [] rfl (fun _ h => absurd h List.not_mem_nil) (by decide) (by decide) (List.mem_of_getElem? (i := 1) rfl) (fun q => ?_)
      refine z_astore_n (lv1 := [(2, .ref q), (0, .ref b), (1, .int x)]) B dL_holders_6 rfl (by decide) rfl ?_
      refine z_ldc (v := (-2000000001)) B 2 rfl dL_holders_7 ?_
      exact z_mret B hAe hr dL_holders_9 rfl (by decide) (by decide) hpx
  · exact z_mret B hAe hr dL_holders_5 rfl (by decide) (by decide) (hN _ _ hp)
set_option maxHeartbeats 4000000 in
set_option maxRecDepth 100000 in
theorem wr_canStrike (l : Launch) (D : va_G) (g : zG) (b : Nat) (wc : va_W) (fs : List Value) (hr0 : wc[0]? = some (b, .inr (6, fs))) (x : Int32) (y : Int32) (P : Int32 → va_W → Prop) (xp : String → va_W → Prop) (post : Int32 → va_W → Prop) (hN : ∀ r w, P r w → post r w) (hX : ∀ E w, xp E w → post (xcd E) w) (hE : ∀ E w, xp E w → E = "java/lang/IndexOutOfBoundsException") (hB : ∀ r w, P r w → r = 0 ∨ r = 1) (hM : zThrL l yX6_canStrike wsX6_canStrike { frames := 7, cells := 2, slots := 12, locals := 103 } D (zT g) wc [.ref b, .int x, .int y] P xp 2 12) : zWrp l yL_canStrike wsL_canStrike { frames := 8, cells := 2, slots := 12, locals := 125 } D (zT g) wc [.ref b, .int x, .int y] post 2 12 := by
  refine zWrp_of (cc := cL_canStrike) (maxL := 4) (ret := (some .int)) (own := RL) (hh := [(0, 14, 15, 13)]) [(0, .ref b), (1, .int x), (2, .int y)] (by decide) rfl rfl rfl (Nat.le_of_ble_eq_true rfl) ?_
  intro X A hAe hl B hr htab hLF
  refine z_aload_n B 0 dL_canStrike_0 rfl rfl ?_
  refine z_iload_n B 1 dL_canStrike_1 rfl rfl ?_
  refine z_iload_n B 2 dL_canStrike_2 rfl rfl ?_
  refine z_w (w' := [] ++ wc) rfl ?_
  refine z_callC (As := [.int x, .int y]) (st := []) (C := RX6) (T := TX6) (N := 6) (ci := 6) (l := l) B hLF hl hM gL_canStrike_X6_canStrike rfl ⟨rfl, rfl⟩ nm_X6_canStrike ⟨by decide, by decide⟩ 0 hr0 rfl rfl (Nat.le_of_ble_eq_true rfl) dL_canStrike_3 rfl rfl (by decide) (by decide) (fun E w1 hx => ?_) (fun r w1 hp => ?_)
  · rcases hE E w1 hx with rfl
    · have hpx := hX _ _ hx
      rw [xcd_B] at hpx
      refine z_catch B hLF htab (by decide) [] ⟨0, 14, 15, 13⟩ [] rfl (fun _ h => absurd h List.not_mem_nil) (by decide) (by decide) (List.mem_of_getElem? (i := 1) rfl) (fun q => ?_)
      refine z_astore_n (lv1 := [(3, .ref q), (0, .ref b), (1, .int x), (2, .int y)]) B dL_canStrike_15 rfl (by decide) rfl ?_
      refine z_ldc (v := (-2000000001)) B 2 rfl dL_canStrike_16 ?_
      exact z_mret B hAe hr dL_canStrike_18 rfl (by decide) (by decide) hpx
  · rcases hB r w1 hp with rfl | rfl
    · refine z_if_eq B 13 dL_canStrike_6 (by decide) (fun _ => ?_) (fun h => absurd rfl h)
      refine z_iconst (v := 0) B dL_canStrike_13 (by decide) ?_
      exact z_mret B hAe hr dL_canStrike_14 rfl (by decide) (by decide) (hN _ _ hp)
    · refine z_if_eq B 13 dL_canStrike_6 (by decide) (fun h => absurd h (by decide)) (fun _ => ?_)
      refine z_iconst (v := 1) B dL_canStrike_9 (by decide) ?_
      refine z_goto B 14 dL_canStrike_10 (by decide) ?_
      exact z_mret B hAe hr dL_canStrike_14 rfl (by decide) (by decide) (hN _ _ hp)
