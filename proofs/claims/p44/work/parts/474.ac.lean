/-! the law's act -/
def acPost (g : zG) (b0 : Nat) (f : Nat → Int32) (nn : Nat) (q : Int32 × zMS) : Int32 → va_W → Prop := fun r w' => ∃ a' : Nat → Nat, a' 0 = b0 ∧ r = q.1 ∧ w' = [(nn, .inl (g.1, 3, .inl f))] ++ wC g a' q.2 (4 * cM q.2)
def acB (X : zX) (l : Launch) (D : va_G) (g : zG) (A : Nat → Prop) (w0 : va_W) : Prop := A = va_A w0 (zs X).heap.size ∧ zl X = l ∧ zB X RL cL_act 9 wsL_act { frames := 9, cells := 6, slots := 419, locals := 183 } D (zT g) (zI1 D A (zs X)) ∧ (zmeth X).sig.returnType = some .int ∧ zLF A (zs X) (zs X).heap ∧ l.stackTraces = false
abbrev acQ (X : zX) (D : va_G) (g : zG) (A : Nat → Prop) (w0 : va_W) (b0 : Nat) (f : Nat → Int32) (nn : Nat) (q : Int32 × zMS) : State → Prop := zQe X (va_Qi (acPost g b0 f nn q) (zEnd D (zT g) w0 (zs X).heap.size) A) 6 419 A
set_option maxHeartbeats 4000000 in
set_option maxRecDepth 100000 in
theorem ac_229 {X : zX} {l : Launch} {D : va_G} {g : zG} {A : Nat → Prop} {w0 : va_W} {b0 : Nat} {a : Nat → Nat} {C : zMS} {f : Nat → Int32} {nn : Nat} (Hb : acB X l D g A w0) (hV : KV C) (ha0 : a 0 = b0) (u am : Nat) (hu : u < 2 ^ 27) (ham : am < 91) (k n : Nat) (hk : k + 3 ≤ 6) (hn : n + 18 ≤ 419) : zJ X 9 (zI1 D A (zs X)) (acQ X D g A w0 b0 f nn (o_legs C (nI ((u + 1 + u / 8 % 6) % 8)) (-(nI am)))) ([(nn, .inl (g.1, 3, .inl f))] ++ wC g a C (4 * cM C)) k n [(0, .ref (a 0)), (3, .int (nI (u))), (7, .int (nI (am)))] 229 [] := by
  obtain ⟨hAe, hl, B, hr, hLF, hst⟩ := id Hb
  have hI := KV_I hV
  have hJ := KV_J hV
  have bP := CI_b19 hI
  have bM := CI_b20 hI
  have bK := CI_b22 hI
  have bT := CI_b0 hI
  refine z_aload_n B 0 dL_act_229 rfl rfl ?_
  refine z_iload_n B 1 dL_act_230 rfl rfl ?_
  refine z_iconst (v := nI 1) B dL_act_231 (by decide) ?_
  refine z_iaddN B dL_act_232 ?_
  refine z_iload_n B 1 dL_act_233 rfl rfl ?_
  refine z_bipush (v := nI 8) B dL_act_234 (by decide) ?_
  refine z_idivN B (by omega) (by omega) (by omega) dL_act_236 ?_
  refine z_bipush (v := nI 6) B dL_act_237 (by decide) ?_
  refine z_iremN B (by omega) (by omega) (by omega) dL_act_239 ?_
  refine z_iaddN B dL_act_240 ?_
  refine z_bipush (v := nI 8) B dL_act_241 (by decide) ?_
  refine z_iremN B (by omega) (by omega) (by omega) dL_act_243 ?_
  refine z_iload B 2 dL_act_244 rfl ?_
  refine z_ineg B dL_act_246 ?_
  refine z_callW (As := [.ref (a 0), .int (nI ((u + 1 + ((u / 8) % 6)) % 8)), .int ((-(nI (am))))]) (st := [])  B hLF hl (fo_legs l D g a C hst hI (nI ((u + 1 + ((u / 8) % 6)) % 8)) (-(nI (am)))) gL_act_L_legs rfl ⟨rfl, rfl⟩ nm_L_legs ⟨by decide, by decide⟩ rfl (Nat.le_of_ble_eq_true rfl) dL_act_247 (by omega) (by omega) (show k + 3 ≤ 6 by omega) (show n + 18 ≤ 419 by omega) (fun r w1 hpq => ?_)
  exact z_mret B hAe hr dL_act_250 rfl (by omega) (by omega) (⟨a, ha0, hpq.1, by rw [hpq.2]⟩)
set_option maxHeartbeats 4000000 in
set_option maxRecDepth 100000 in
theorem ac_196 {X : zX} {l : Launch} {D : va_G} {g : zG} {A : Nat → Prop} {w0 : va_W} {b0 : Nat} {a : Nat → Nat} {C : zMS} {f : Nat → Int32} {nn : Nat} (Hb : acB X l D g A w0) (hV : KV C) (ha0 : a 0 = b0) (j u p c s am : Nat) (hj : j < 2 ^ 31) (hu : u < 2 ^ 27) (hp0 : p < 80) (hc0 : c < 16) (hs0 : s < 8) (ham : am < 91) (k n : Nat) (hk : k + 3 ≤ 6) (hn : n + 18 ≤ 419) : zJ X 9 (zI1 D A (zs X)) (acQ X D g A w0 b0 f nn (o_legs C (nI (u % 8)) (nI am))) ([(nn, .inl (g.1, 3, .inl f))] ++ wC g a C (4 * cM C)) k n [(0, .ref (a 0)), (1, .ref (nn)), (2, .int (nI (j))), (3, .int (nI (u))), (4, .int (nI (p))), (5, .int (nI (c))), (6, .int (nI (s))), (7, .int (nI (am)))] 196 [] := by
  obtain ⟨hAe, hl, B, hr, hLF, hst⟩ := id Hb
  have hI := KV_I hV
  have hJ := KV_J hV
  have bP := CI_b19 hI
  have bM := CI_b20 hI
  have bK := CI_b22 hI
  have bT := CI_b0 hI
  refine z_aload_n B 0 dL_act_196 rfl rfl ?_
  refine z_iload_n B 3 dL_act_197 rfl rfl ?_
  refine z_bipush (v := nI 8) B dL_act_198 (by decide) ?_
  refine z_iremN B (by omega) (by omega) (by omega) dL_act_200 ?_
  refine z_iload B 7 dL_act_201 rfl ?_
  refine z_callW (As := [.ref (a 0), .int (nI (u % 8)), .int (nI (am))]) (st := [])  B hLF hl (fo_legs l D g a C hst hI (nI (u % 8)) (nI (am))) gL_act_L_legs rfl ⟨rfl, rfl⟩ nm_L_legs ⟨by decide, by decide⟩ rfl (Nat.le_of_ble_eq_true rfl) dL_act_203 (by omega) (by omega) (show k + 3 ≤ 6 by omega) (show n + 18 ≤ 419 by omega) (fun r w1 hpq => ?_)
  exact z_mret B hAe hr dL_act_206 rfl (by omega) (by omega) (⟨a, ha0, hpq.1, by rw [hpq.2]⟩)
set_option maxHeartbeats 4000000 in
set_option maxRecDepth 100000 in
theorem ac_207 {X : zX} {l : Launch} {D : va_G} {g : zG} {A : Nat → Prop} {w0 : va_W} {b0 : Nat} {a : Nat → Nat} {C : zMS} {f : Nat → Int32} {nn : Nat} (Hb : acB X l D g A w0) (hV : KV C) (ha0 : a 0 = b0) (j u p c s am : Nat) (hj : j < 2 ^ 31) (hu : u < 2 ^ 27) (hp0 : p < 80) (hc0 : c < 16) (hs0 : s < 8) (ham : am < 91) (k n : Nat) (hk : k + 6 ≤ 6) (hn : n + 36 ≤ 419) : zJ X 9 (zI1 D A (zs X)) (acQ X D g A w0 b0 f nn (acLg C u am)) ([(nn, .inl (g.1, 3, .inl f))] ++ wC g a C (4 * cM C)) k n [(0, .ref (a 0)), (1, .ref (nn)), (2, .int (nI (j))), (3, .int (nI (u))), (4, .int (nI (p))), (5, .int (nI (c))), (6, .int (nI (s))), (7, .int (nI (am)))] 207 [] := by
  obtain ⟨hAe, hl, B, hr, hLF, hst⟩ := id Hb
  have hI := KV_I hV
  have hJ := KV_J hV
  have bP := CI_b19 hI
  have bM := CI_b20 hI
  have bK := CI_b22 hI
  have bT := CI_b0 hI
  refine z_aload_n B 0 dL_act_207 rfl rfl ?_
  refine z_iload_n B 3 dL_act_208 rfl rfl ?_
  refine z_bipush (v := nI 8) B dL_act_209 (by decide) ?_
  refine z_iremN B (by omega) (by omega) (by omega) dL_act_211 ?_
  refine z_iload B 7 dL_act_212 rfl ?_
  refine z_callW (As := [.ref (a 0), .int (nI (u % 8)), .int (nI (am))]) (st := [])  B hLF hl (fo_legs l D g a C hst hI (nI (u % 8)) (nI (am))) gL_act_L_legs rfl ⟨rfl, rfl⟩ nm_L_legs ⟨by decide, by decide⟩ rfl (Nat.le_of_ble_eq_true rfl) dL_act_214 (by omega) (by omega) (show k + 3 ≤ 6 by omega) (show n + 18 ≤ 419 by omega) (fun r w1 hpq => ?_)
  obtain ⟨rfl, rfl⟩ := hpq
  refine z_istore (lv1 := [(8, .int ((o_legs C (nI (u % 8)) (nI (am))).1)), (0, .ref (a 0)), (1, .ref (nn)), (2, .int (nI (j))), (3, .int (nI (u))), (4, .int (nI (p))), (5, .int (nI (c))), (6, .int (nI (s))), (7, .int (nI (am)))]) B dL_act_217 (by decide) rfl ?_
  refine z_iload B 0 dL_act_219 rfl ?_
  refine z_if_ge B 229 dL_act_221 (by decide) (fun c221 => ?_) (fun c221 => ?_)
  · rw [acLg, if_neg (Int32.not_lt.mpr c221)]
    exact z_loc [1, 4, 8] (lv' := [(0, .ref (a 0)), (3, .int (nI (u))), (7, .int (nI (am)))]) rfl (ac_229 Hb (KVo_legs _ _ hV) ha0 u am hu ham (k + 3) (n + 18) (by omega) (by omega))
  · refine z_iload B 0 dL_act_224 rfl ?_
    refine z_goto B 250 dL_act_226 (by decide) ?_
    exact z_mret B hAe hr dL_act_250 rfl (by omega) (by omega) (⟨a, ha0, by rw [acLg, if_pos (Int32.not_le.mp c221)], by rw [acLg, if_pos (Int32.not_le.mp c221)]⟩)
set_option maxHeartbeats 4000000 in
set_option maxRecDepth 100000 in
theorem ac_251 {X : zX} {l : Launch} {D : va_G} {g : zG} {A : Nat → Prop} {w0 : va_W} {b0 : Nat} {a : Nat → Nat} {C : zMS} {f : Nat → Int32} {nn : Nat} (Hb : acB X l D g A w0) (hV : KV C) (ha0 : a 0 = b0) (j u p c s am : Nat) (hj : j < 2 ^ 31) (hu : u < 2 ^ 27) (hp0 : p < 80) (hc0 : c < 16) (hs0 : s < 8) (ham : am < 91) (k n : Nat) (hk : k + 0 ≤ 6) (hn : n + 0 ≤ 419) : zJ X 9 (zI1 D A (zs X)) (acQ X D g A w0 b0 f nn ((nI (cD C), up2 C 3 0 (nI 0)))) ([(nn, .inl (g.1, 3, .inl f))] ++ wC g a C (4 * cM C)) k n [(0, .ref (a 0)), (1, .ref (nn)), (2, .int (nI (j))), (3, .int (nI (u))), (4, .int (nI (p))), (5, .int (nI (c))), (6, .int (nI (s))), (7, .int (nI (am)))] 251 [] := by
  obtain ⟨hAe, hl, B, hr, hLF, hst⟩ := id Hb
  have hI := KV_I hV
  have hJ := KV_J hV
  have bP := CI_b19 hI
  have bM := CI_b20 hI
  have bK := CI_b22 hI
  have bT := CI_b0 hI
  refine z_aload_n B 0 dL_act_251 rfl rfl ?_
  refine z_callMf (As := []) (st := []) (C := RX6) (T := TX6) (N := 6) (ci := 6) (l := l) B hl (cc_X6_wipe l D g a C (4 * cM C) hI) gL_act_X6_wipe rfl ⟨rfl, rfl⟩ nm_X6_wipe ⟨by decide, by decide⟩ 0 rfl rfl rfl (Nat.le_of_ble_eq_true rfl) dL_act_252 (by omega) (by omega) (show k ≤ 6 by omega) (show n ≤ 419 by omega) (fun r w1 hpq => ?_)
  exact z_mret B hAe hr dL_act_255 rfl (by omega) (by omega) (⟨a, ha0, hpq.1, by rw [hpq.2]; show _ = [(nn, .inl (g.1, 3, .inl f))] ++ wC g a (up2 C 3 0 (nI 0)) (4 * cM (up2 C 3 0 (nI 0))); rw [show cM (up2 C 3 0 (nI 0)) = cM C by unfold cM; rw [up2_k (by decide)]]⟩)
set_option maxHeartbeats 4000000 in
set_option maxRecDepth 100000 in
theorem ac_256 {X : zX} {l : Launch} {D : va_G} {g : zG} {A : Nat → Prop} {w0 : va_W} {b0 : Nat} {a : Nat → Nat} {C : zMS} {f : Nat → Int32} {nn : Nat} (Hb : acB X l D g A w0) (hV : KV C) (ha0 : a 0 = b0) (j u p c s am : Nat) (hj : j < 2 ^ 31) (hu : u < 2 ^ 27) (hp0 : p < 80) (hc0 : c < 16) (hs0 : s < 8) (ham : am < 91) (k n : Nat) (hk : k + 2 ≤ 6) (hn : n + 12 ≤ 419) : zJ X 9 (zI1 D A (zs X)) (acQ X D g A w0 b0 f nn (o_writes C (nI (u % 10000)))) ([(nn, .inl (g.1, 3, .inl f))] ++ wC g a C (4 * cM C)) k n [(0, .ref (a 0)), (1, .ref (nn)), (2, .int (nI (j))), (3, .int (nI (u))), (4, .int (nI (p))), (5, .int (nI (c))), (6, .int (nI (s))), (7, .int (nI (am)))] 256 [] := by
  obtain ⟨hAe, hl, B, hr, hLF, hst⟩ := id Hb
  have hI := KV_I hV
  have hJ := KV_J hV
  have bP := CI_b19 hI
  have bM := CI_b20 hI
  have bK := CI_b22 hI
  have bT := CI_b0 hI
  refine z_aload_n B 0 dL_act_256 rfl rfl ?_
  refine z_iload_n B 3 dL_act_257 rfl rfl ?_
  refine z_sipush (v := nI 10000) B dL_act_258 (by decide) ?_
  refine z_iremN B (by omega) (by omega) (by omega) dL_act_261 ?_
  refine z_callW (As := [.ref (a 0), .int (nI (u % 10000))]) (st := [])  B hLF hl (fo_writes l D g a C hst hI (nI (u % 10000))) gL_act_L_writes rfl ⟨rfl, rfl⟩ nm_L_writes ⟨by decide, by decide⟩ rfl (Nat.le_of_ble_eq_true rfl) dL_act_262 (by omega) (by omega) (show k + 2 ≤ 6 by omega) (show n + 12 ≤ 419 by omega) (fun r w1 hpq => ?_)
  exact z_mret B hAe hr dL_act_265 rfl (by omega) (by omega) (⟨a, ha0, hpq.1, by rw [hpq.2]⟩)
set_option maxHeartbeats 4000000 in
set_option maxRecDepth 100000 in
theorem ac_266 {X : zX} {l : Launch} {D : va_G} {g : zG} {A : Nat → Prop} {w0 : va_W} {b0 : Nat} {a : Nat → Nat} {C : zMS} {f : Nat → Int32} {nn : Nat} (Hb : acB X l D g A w0) (hV : KV C) (ha0 : a 0 = b0) (j u p c s am : Nat) (hj : j < 2 ^ 31) (hu : u < 2 ^ 27) (hp0 : p < 80) (hc0 : c < 16) (hs0 : s < 8) (ham : am < 91) (k n : Nat) (hk : k + 2 ≤ 6) (hn : n + 12 ≤ 419) : zJ X 9 (zI1 D A (zs X)) (acQ X D g A w0 b0 f nn (o_reverses C (nI p))) ([(nn, .inl (g.1, 3, .inl f))] ++ wC g a C (4 * cM C)) k n [(0, .ref (a 0)), (1, .ref (nn)), (2, .int (nI (j))), (3, .int (nI (u))), (4, .int (nI (p))), (5, .int (nI (c))), (6, .int (nI (s))), (7, .int (nI (am)))] 266 [] := by
  obtain ⟨hAe, hl, B, hr, hLF, hst⟩ := id Hb
  have hI := KV_I hV
  have hJ := KV_J hV
  have bP := CI_b19 hI
  have bM := CI_b20 hI
  have bK := CI_b22 hI
  have bT := CI_b0 hI
  refine z_aload_n B 0 dL_act_266 rfl rfl ?_
  refine z_iload B 4 dL_act_267 rfl ?_
  refine z_callW (As := [.ref (a 0), .int (nI (p))]) (st := [])  B hLF hl (fo_reverses l D g a C hst hI (nI (p))) gL_act_L_reverses rfl ⟨rfl, rfl⟩ nm_L_reverses ⟨by decide, by decide⟩ rfl (Nat.le_of_ble_eq_true rfl) dL_act_269 (by omega) (by omega) (show k + 2 ≤ 6 by omega) (show n + 12 ≤ 419 by omega) (fun r w1 hpq => ?_)
  exact z_mret B hAe hr dL_act_272 rfl (by omega) (by omega) (⟨a, ha0, hpq.1, by rw [hpq.2]⟩)
set_option maxHeartbeats 4000000 in
set_option maxRecDepth 100000 in
theorem ac_273 {X : zX} {l : Launch} {D : va_G} {g : zG} {A : Nat → Prop} {w0 : va_W} {b0 : Nat} {a : Nat → Nat} {C : zMS} {f : Nat → Int32} {nn : Nat} (Hb : acB X l D g A w0) (hV : KV C) (ha0 : a 0 = b0) (j u p c s am : Nat) (hj : j < 2 ^ 31) (hu : u < 2 ^ 27) (hp0 : p < 80) (hc0 : c < 16) (hs0 : s < 8) (ham : am < 91) (k n : Nat) (hk : k + 3 ≤ 6) (hn : n + 18 ≤ 419) : zJ X 9 (zI1 D A (zs X)) (acQ X D g A w0 b0 f nn (o_burns C (nI p) (nI (p + u / 80 % 3)))) ([(nn, .inl (g.1, 3, .inl f))] ++ wC g a C (4 * cM C)) k n [(0, .ref (a 0)), (1, .ref (nn)), (2, .int (nI (j))), (3, .int (nI (u))), (4, .int (nI (p))), (5, .int (nI (c))), (6, .int (nI (s))), (7, .int (nI (am)))] 273 [] := by
  obtain ⟨hAe, hl, B, hr, hLF, hst⟩ := id Hb
  have hI := KV_I hV
  have hJ := KV_J hV
  have bP := CI_b19 hI
  have bM := CI_b20 hI
  have bK := CI_b22 hI
  have bT := CI_b0 hI
  refine z_aload_n B 0 dL_act_273 rfl rfl ?_
  refine z_iload B 4 dL_act_274 rfl ?_
  refine z_iload B 4 dL_act_276 rfl ?_
  refine z_iload_n B 3 dL_act_278 rfl rfl ?_
  refine z_bipush (v := nI 80) B dL_act_279 (by decide) ?_
  refine z_idivN B (by omega) (by omega) (by omega) dL_act_281 ?_
  refine z_iconst (v := nI 3) B dL_act_282 (by decide) ?_
  refine z_iremN B (by omega) (by omega) (by omega) dL_act_283 ?_
  refine z_iaddN B dL_act_284 ?_
  refine z_callW (As := [.ref (a 0), .int (nI (p)), .int (nI (p + ((u / 80) % 3)))]) (st := [])  B hLF hl (fo_burns l D g a C hst hI (nI (p)) (nI (p + ((u / 80) % 3)))) gL_act_L_burns rfl ⟨rfl, rfl⟩ nm_L_burns ⟨by decide, by decide⟩ rfl (Nat.le_of_ble_eq_true rfl) dL_act_285 (by omega) (by omega) (show k + 3 ≤ 6 by omega) (show n + 18 ≤ 419 by omega) (fun r w1 hpq => ?_)
  exact z_mret B hAe hr dL_act_288 rfl (by omega) (by omega) (⟨a, ha0, hpq.1, by rw [hpq.2]⟩)
set_option maxHeartbeats 4000000 in
set_option maxRecDepth 100000 in
theorem ac_289 {X : zX} {l : Launch} {D : va_G} {g : zG} {A : Nat → Prop} {w0 : va_W} {b0 : Nat} {a : Nat → Nat} {C : zMS} {f : Nat → Int32} {nn : Nat} (Hb : acB X l D g A w0) (hV : KV C) (ha0 : a 0 = b0) (j u p c s am : Nat) (hj : j < 2 ^ 31) (hu : u < 2 ^ 27) (hp0 : p < 80) (hc0 : c < 16) (hs0 : s < 8) (ham : am < 91) (k n : Nat) (hk : k + 3 ≤ 6) (hn : n + 18 ≤ 419) : zJ X 9 (zI1 D A (zs X)) (acQ X D g A w0 b0 f nn (o_alters C (nI p) (nI (u / 80 % 3)) (nI (u / 240 % 60) - nI 30))) ([(nn, .inl (g.1, 3, .inl f))] ++ wC g a C (4 * cM C)) k n [(0, .ref (a 0)), (1, .ref (nn)), (2, .int (nI (j))), (3, .int (nI (u))), (4, .int (nI (p))), (5, .int (nI (c))), (6, .int (nI (s))), (7, .int (nI (am)))] 289 [] := by
  obtain ⟨hAe, hl, B, hr, hLF, hst⟩ := id Hb
  have hI := KV_I hV
  have hJ := KV_J hV
  have bP := CI_b19 hI
  have bM := CI_b20 hI
  have bK := CI_b22 hI
  have bT := CI_b0 hI
  refine z_aload_n B 0 dL_act_289 rfl rfl ?_
  refine z_iload B 4 dL_act_290 rfl ?_
  refine z_iload_n B 3 dL_act_292 rfl rfl ?_
  refine z_bipush (v := nI 80) B dL_act_293 (by decide) ?_
  refine z_idivN B (by omega) (by omega) (by omega) dL_act_295 ?_
  refine z_iconst (v := nI 3) B dL_act_296 (by decide) ?_
  refine z_iremN B (by omega) (by omega) (by omega) dL_act_297 ?_
  refine z_iload_n B 3 dL_act_298 rfl rfl ?_
  refine z_sipush (v := nI 240) B dL_act_299 (by decide) ?_
  refine z_idivN B (by omega) (by omega) (by omega) dL_act_302 ?_
  refine z_bipush (v := nI 60) B dL_act_303 (by decide) ?_
  refine z_iremN B (by omega) (by omega) (by omega) dL_act_305 ?_
  refine z_bipush (v := nI 30) B dL_act_306 (by decide) ?_
  refine z_isub B dL_act_308 ?_
  refine z_top (y := (nI (u / 240 % 60) - nI (30))) (rfl) ?_
  refine z_callW (As := [.ref (a 0), .int (nI (p)), .int (nI ((u / 80) % 3)), .int ((nI (u / 240 % 60) - nI (30)))]) (st := [])  B hLF hl (fo_alters l D g a C hst hI (nI (p)) (nI ((u / 80) % 3)) (nI (u / 240 % 60) - nI (30))) gL_act_L_alters rfl ⟨rfl, rfl⟩ nm_L_alters ⟨by decide, by decide⟩ rfl (Nat.le_of_ble_eq_true rfl) dL_act_309 (by omega) (by omega) (show k + 3 ≤ 6 by omega) (show n + 18 ≤ 419 by omega) (fun r w1 hpq => ?_)
  exact z_mret B hAe hr dL_act_312 rfl (by omega) (by omega) (⟨a, ha0, hpq.1, by rw [hpq.2]⟩)
set_option maxHeartbeats 4000000 in
set_option maxRecDepth 100000 in
theorem ac_313 {X : zX} {l : Launch} {D : va_G} {g : zG} {A : Nat → Prop} {w0 : va_W} {b0 : Nat} {a : Nat → Nat} {C : zMS} {f : Nat → Int32} {nn : Nat} (Hb : acB X l D g A w0) (hV : KV C) (ha0 : a 0 = b0) (j u p c s am : Nat) (hj : j < 2 ^ 31) (hu : u < 2 ^ 27) (hp0 : p < 80) (hc0 : c < 16) (hs0 : s < 8) (ham : am < 91) (k n : Nat) (hk : k + 1 ≤ 6) (hn : n + 6 ≤ 419) : zJ X 9 (zI1 D A (zs X)) (acQ X D g A w0 b0 f nn (o_passes C (nI (1 + u % 15)))) ([(nn, .inl (g.1, 3, .inl f))] ++ wC g a C (4 * cM C)) k n [(0, .ref (a 0)), (1, .ref (nn)), (2, .int (nI (j))), (3, .int (nI (u))), (4, .int (nI (p))), (5, .int (nI (c))), (6, .int (nI (s))), (7, .int (nI (am)))] 313 [] := by
  obtain ⟨hAe, hl, B, hr, hLF, hst⟩ := id Hb
  have hI := KV_I hV
  have hJ := KV_J hV
  have bP := CI_b19 hI
  have bM := CI_b20 hI
  have bK := CI_b22 hI
  have bT := CI_b0 hI
  refine z_aload_n B 0 dL_act_313 rfl rfl ?_
  refine z_iconst (v := nI 1) B dL_act_314 (by decide) ?_
  refine z_iload_n B 3 dL_act_315 rfl rfl ?_
  refine z_bipush (v := nI 15) B dL_act_316 (by decide) ?_
  refine z_iremN B (by omega) (by omega) (by omega) dL_act_318 ?_
  refine z_iaddN B dL_act_319 ?_
  refine z_callW (As := [.ref (a 0), .int (nI (1 + (u % 15)))]) (st := [])  B hLF hl (fo_passes l D g a C hst hI (nI (1 + (u % 15)))) gL_act_L_passes rfl ⟨rfl, rfl⟩ nm_L_passes ⟨by decide, by decide⟩ rfl (Nat.le_of_ble_eq_true rfl) dL_act_320 (by omega) (by omega) (show k + 1 ≤ 6 by omega) (show n + 6 ≤ 419 by omega) (fun r w1 hpq => ?_)
  exact z_mret B hAe hr dL_act_323 rfl (by omega) (by omega) (⟨a, ha0, hpq.1, by rw [hpq.2]⟩)
set_option maxHeartbeats 4000000 in
set_option maxRecDepth 100000 in
theorem ac_324 {X : zX} {l : Launch} {D : va_G} {g : zG} {A : Nat → Prop} {w0 : va_W} {b0 : Nat} {a : Nat → Nat} {C : zMS} {f : Nat → Int32} {nn : Nat} (Hb : acB X l D g A w0) (hV : KV C) (ha0 : a 0 = b0) (j u p c s am : Nat) (hj : j < 2 ^ 31) (hu : u < 2 ^ 27) (hp0 : p < 80) (hc0 : c < 16) (hs0 : s < 8) (ham : am < 91) (k n : Nat) (hk : k + 5 ≤ 6) (hn : n + 413 ≤ 419) : zJ X 9 (zI1 D A (zs X)) (acQ X D g A w0 b0 f nn (o_copies C)) ([(nn, .inl (g.1, 3, .inl f))] ++ wC g a C (4 * cM C)) k n [(0, .ref (a 0)), (1, .ref (nn)), (2, .int (nI (j))), (3, .int (nI (u))), (4, .int (nI (p))), (5, .int (nI (c))), (6, .int (nI (s))), (7, .int (nI (am)))] 324 [] := by
  obtain ⟨hAe, hl, B, hr, hLF, hst⟩ := id Hb
  have hI := KV_I hV
  have hJ := KV_J hV
  have bP := CI_b19 hI
  have bM := CI_b20 hI
  have bK := CI_b22 hI
  have bT := CI_b0 hI
  refine z_aload_n B 0 dL_act_324 rfl rfl ?_
  refine z_callW (As := [.ref (a 0)]) (st := [])  B hLF hl (fo_copies l D g a C hst hI hJ) gL_act_L_copies rfl ⟨rfl, rfl⟩ nm_L_copies ⟨by decide, by decide⟩ rfl (Nat.le_of_ble_eq_true rfl) dL_act_325 (by omega) (by omega) (show k + 5 ≤ 6 by omega) (show n + 413 ≤ 419 by omega) (fun r w1 hpq => ?_)
  exact z_mret B hAe hr dL_act_328 rfl (by omega) (by omega) ((by obtain ⟨a2, h1, h2, h3⟩ := hpq; exact ⟨a2, h1.trans ha0, h2, by rw [h3]⟩))
set_option maxHeartbeats 4000000 in
set_option maxRecDepth 100000 in
theorem ac_329 {X : zX} {l : Launch} {D : va_G} {g : zG} {A : Nat → Prop} {w0 : va_W} {b0 : Nat} {a : Nat → Nat} {C : zMS} {f : Nat → Int32} {nn : Nat} (Hb : acB X l D g A w0) (hV : KV C) (ha0 : a 0 = b0) (j u p c s am : Nat) (hj : j < 2 ^ 31) (hu : u < 2 ^ 27) (hp0 : p < 80) (hc0 : c < 16) (hs0 : s < 8) (ham : am < 91) (k n : Nat) (hk : k + 6 ≤ 6) (hn : n + 419 ≤ 419) : zJ X 9 (zI1 D A (zs X)) (acQ X D g A w0 b0 f nn (o_copiesFrom C (nI c))) ([(nn, .inl (g.1, 3, .inl f))] ++ wC g a C (4 * cM C)) k n [(0, .ref (a 0)), (1, .ref (nn)), (2, .int (nI (j))), (3, .int (nI (u))), (4, .int (nI (p))), (5, .int (nI (c))), (6, .int (nI (s))), (7, .int (nI (am)))] 329 [] := by
  obtain ⟨hAe, hl, B, hr, hLF, hst⟩ := id Hb
  have hI := KV_I hV
  have hJ := KV_J hV
  have bP := CI_b19 hI
  have bM := CI_b20 hI
  have bK := CI_b22 hI
  have bT := CI_b0 hI
  refine z_aload_n B 0 dL_act_329 rfl rfl ?_
  refine z_iload B 5 dL_act_330 rfl ?_
  refine z_callW (As := [.ref (a 0), .int (nI (c))]) (st := [])  B hLF hl (fo_copiesFrom l D g a C hst hI hJ (nI (c))) gL_act_L_copiesFrom rfl ⟨rfl, rfl⟩ nm_L_copiesFrom ⟨by decide, by decide⟩ rfl (Nat.le_of_ble_eq_true rfl) dL_act_332 (by omega) (by omega) (show k + 6 ≤ 6 by omega) (show n + 419 ≤ 419 by omega) (fun r w1 hpq => ?_)
  exact z_mret B hAe hr dL_act_335 rfl (by omega) (by omega) ((by obtain ⟨a2, h1, h2, h3⟩ := hpq; exact ⟨a2, h1.trans ha0, h2, by rw [h3]⟩))
set_option maxHeartbeats 4000000 in
set_option maxRecDepth 100000 in
theorem ac_336 {X : zX} {l : Launch} {D : va_G} {g : zG} {A : Nat → Prop} {w0 : va_W} {b0 : Nat} {a : Nat → Nat} {C : zMS} {f : Nat → Int32} {nn : Nat} (Hb : acB X l D g A w0) (hV : KV C) (ha0 : a 0 = b0) (j u p c s am : Nat) (hj : j < 2 ^ 31) (hu : u < 2 ^ 27) (hp0 : p < 80) (hc0 : c < 16) (hs0 : s < 8) (ham : am < 91) (k n : Nat) (hk : k + 1 ≤ 6) (hn : n + 6 ≤ 419) : zJ X 9 (zI1 D A (zs X)) (acQ X D g A w0 b0 f nn (acCa C u c)) ([(nn, .inl (g.1, 3, .inl f))] ++ wC g a C (4 * cM C)) k n [(0, .ref (a 0)), (1, .ref (nn)), (2, .int (nI (j))), (3, .int (nI (u))), (4, .int (nI (p))), (5, .int (nI (c))), (6, .int (nI (s))), (7, .int (nI (am)))] 336 [] := by
  obtain ⟨hAe, hl, B, hr, hLF, hst⟩ := id Hb
  have hI := KV_I hV
  have hJ := KV_J hV
  have bP := CI_b19 hI
  have bM := CI_b20 hI
  have bK := CI_b22 hI
  have bT := CI_b0 hI
  refine z_aload_n B 0 dL_act_336 rfl rfl ?_
  refine z_iload B 5 dL_act_337 rfl ?_
  refine z_iload_n B 3 dL_act_339 rfl rfl ?_
  refine z_bipush (v := nI 16) B dL_act_340 (by decide) ?_
  refine z_idivN B (by omega) (by omega) (by omega) dL_act_342 ?_
  refine z_iconst (v := nI 2) B dL_act_343 (by decide) ?_
  refine z_iremN B (by omega) (by omega) (by omega) dL_act_344 ?_
  refine z_ifN_ne B 352 dL_act_345 (by decide) (by omega) (fun c345 => ?_) (fun c345 => ?_)
  · refine z_iconst (v := nI 0) B dL_act_352 (by decide) ?_
    refine z_callW (As := [.ref (a 0), .int (nI (c)), .int (nI (0))]) (st := [])  B hLF hl (fo_carries0 l D g a C hst hI hJ (nI (c))) gL_act_L_carries rfl ⟨rfl, rfl⟩ nm_L_carries ⟨by decide, by decide⟩ rfl (Nat.le_of_ble_eq_true rfl) dL_act_353 (by omega) (by omega) (show k + 1 ≤ 6 by omega) (show n + 6 ≤ 419 by omega) (fun r w1 hpq => ?_)
    exact z_mret B hAe hr dL_act_356 rfl (by omega) (by omega) (by first | (rw [acCa, if_pos c345]; exact ⟨a, ha0, hpq.1, by rw [hpq.2]⟩) | (rw [acCa, if_neg (by omega)]; exact ⟨a, ha0, hpq.1, by rw [hpq.2]⟩))
  · refine z_iconst (v := nI 1) B dL_act_348 (by decide) ?_
    refine z_goto B 353 dL_act_349 (by decide) ?_
    refine z_callW (As := [.ref (a 0), .int (nI (c)), .int (nI (1))]) (st := [])  B hLF hl (fo_carries1 l D g a C hst hI hJ (nI (c))) gL_act_L_carries rfl ⟨rfl, rfl⟩ nm_L_carries ⟨by decide, by decide⟩ rfl (Nat.le_of_ble_eq_true rfl) dL_act_353 (by omega) (by omega) (show k + 1 ≤ 6 by omega) (show n + 6 ≤ 419 by omega) (fun r w1 hpq => ?_)
    exact z_mret B hAe hr dL_act_356 rfl (by omega) (by omega) (by first | (rw [acCa, if_pos c345]; exact ⟨a, ha0, hpq.1, by rw [hpq.2]⟩) | (rw [acCa, if_neg (by omega)]; exact ⟨a, ha0, hpq.1, by rw [hpq.2]⟩))
set_option maxHeartbeats 4000000 in
set_option maxRecDepth 100000 in
theorem ac_357 {X : zX} {l : Launch} {D : va_G} {g : zG} {A : Nat → Prop} {w0 : va_W} {b0 : Nat} {a : Nat → Nat} {C : zMS} {f : Nat → Int32} {nn : Nat} (Hb : acB X l D g A w0) (hV : KV C) (ha0 : a 0 = b0) (j u p c s am : Nat) (hj : j < 2 ^ 31) (hu : u < 2 ^ 27) (hp0 : p < 80) (hc0 : c < 16) (hs0 : s < 8) (ham : am < 91) (k n : Nat) (hk : k + 2 ≤ 6) (hn : n + 12 ≤ 419) : zJ X 9 (zI1 D A (zs X)) (acQ X D g A w0 b0 f nn (o_rots C (nI c) (nI p))) ([(nn, .inl (g.1, 3, .inl f))] ++ wC g a C (4 * cM C)) k n [(0, .ref (a 0)), (1, .ref (nn)), (2, .int (nI (j))), (3, .int (nI (u))), (4, .int (nI (p))), (5, .int (nI (c))), (6, .int (nI (s))), (7, .int (nI (am)))] 357 [] := by
  obtain ⟨hAe, hl, B, hr, hLF, hst⟩ := id Hb
  have hI := KV_I hV
  have hJ := KV_J hV
  have bP := CI_b19 hI
  have bM := CI_b20 hI
  have bK := CI_b22 hI
  have bT := CI_b0 hI
  refine z_aload_n B 0 dL_act_357 rfl rfl ?_
  refine z_iload B 5 dL_act_358 rfl ?_
  refine z_iload B 4 dL_act_360 rfl ?_
  refine z_callW (As := [.ref (a 0), .int (nI (c)), .int (nI (p))]) (st := [])  B hLF hl (fo_rots l D g a C hst hI (nI (c)) (nI (p))) gL_act_L_rots rfl ⟨rfl, rfl⟩ nm_L_rots ⟨by decide, by decide⟩ rfl (Nat.le_of_ble_eq_true rfl) dL_act_362 (by omega) (by omega) (show k + 2 ≤ 6 by omega) (show n + 12 ≤ 419 by omega) (fun r w1 hpq => ?_)
  exact z_mret B hAe hr dL_act_365 rfl (by omega) (by omega) (⟨a, ha0, hpq.1, by rw [hpq.2]⟩)
set_option maxHeartbeats 4000000 in
set_option maxRecDepth 100000 in
theorem ac_366 {X : zX} {l : Launch} {D : va_G} {g : zG} {A : Nat → Prop} {w0 : va_W} {b0 : Nat} {a : Nat → Nat} {C : zMS} {f : Nat → Int32} {nn : Nat} (Hb : acB X l D g A w0) (hV : KV C) (ha0 : a 0 = b0) (j u p c s am : Nat) (hj : j < 2 ^ 31) (hu : u < 2 ^ 27) (hp0 : p < 80) (hc0 : c < 16) (hs0 : s < 8) (ham : am < 91) (k n : Nat) (hk : k + 2 ≤ 6) (hn : n + 12 ≤ 419) : zJ X 9 (zI1 D A (zs X)) (acQ X D g A w0 b0 f nn (acTh C u c)) ([(nn, .inl (g.1, 3, .inl f))] ++ wC g a C (4 * cM C)) k n [(0, .ref (a 0)), (1, .ref (nn)), (2, .int (nI (j))), (3, .int (nI (u))), (4, .int (nI (p))), (5, .int (nI (c))), (6, .int (nI (s))), (7, .int (nI (am)))] 366 [] := by
  obtain ⟨hAe, hl, B, hr, hLF, hst⟩ := id Hb
  have hI := KV_I hV
  have hJ := KV_J hV
  have bP := CI_b19 hI
  have bM := CI_b20 hI
  have bK := CI_b22 hI
  have bT := CI_b0 hI
  refine z_w (w' := [] ++ ((nn, .inl (g.1, 3, .inl f)) :: wC g a C (4 * cM C))) rfl ?_
  refine z_dist (fun hn => ?_)
  refine z_w (w' := [(nn, .inl (g.1, 3, .inl f))] ++ wC g a C (4 * cM C)) rfl ?_
  refine z_iload_n B 3 dL_act_366 rfl rfl ?_
  refine z_bipush (v := nI 16) B dL_act_367 (by decide) ?_
  refine z_idivN B (by omega) (by omega) (by omega) dL_act_369 ?_
  refine z_iconst (v := nI 3) B dL_act_370 (by decide) ?_
  refine z_iremN B (by omega) (by omega) (by omega) dL_act_371 ?_
  refine z_ifN_ne B 384 dL_act_372 (by decide) (by omega) (fun c372 => ?_) (fun c372 => ?_)
  · refine z_aload_n B 0 dL_act_384 rfl rfl ?_
    refine z_iload B 5 dL_act_385 rfl ?_
    refine z_callW (As := [.ref (a 0), .int (nI (c))]) (st := [])  B hLF hl (fo_size l D g a C hst hI hJ (nI (c))) gL_act_L_size rfl ⟨rfl, rfl⟩ nm_L_size ⟨by decide, by decide⟩ rfl (Nat.le_of_ble_eq_true rfl) dL_act_387 (by omega) (by omega) (show k + 1 ≤ 6 by omega) (show n + 6 ≤ 419 by omega) (fun r w1 hpq => ?_)
    exact z_mret B hAe hr dL_act_390 rfl (by omega) (by omega) (by first | (rw [acTh, if_pos c372]; exact ⟨a, ha0, hpq.1, by rw [hpq.2]⟩) | (rw [acTh, if_neg (by omega)]; exact ⟨a, ha0, hpq.1, by rw [hpq.2]⟩))
  · refine z_aload_n B 0 dL_act_375 rfl rfl ?_
    refine z_iload B 5 dL_act_376 rfl ?_
    refine z_callW (As := [.ref (a 0), .int (nI (c))]) (st := [])  B hLF hl (fo_throwsAway l D g a C hst hI hJ hn (nI (c))) gL_act_L_throwsAway rfl ⟨rfl, rfl⟩ nm_L_throwsAway ⟨by decide, by decide⟩ rfl (Nat.le_of_ble_eq_true rfl) dL_act_378 (by omega) (by omega) (show k + 2 ≤ 6 by omega) (show n + 12 ≤ 419 by omega) (fun r w1 hpq => ?_)
    refine z_goto B 390 dL_act_381 (by decide) ?_
    exact z_mret B hAe hr dL_act_390 rfl (by omega) (by omega) (by first | (rw [acTh, if_pos c372]; exact ⟨a, ha0, hpq.1, by rw [hpq.2]⟩) | (rw [acTh, if_neg (by omega)]; exact ⟨a, ha0, hpq.1, by rw [hpq.2]⟩))
set_option maxHeartbeats 4000000 in
set_option maxRecDepth 100000 in
theorem ac_391 {X : zX} {l : Launch} {D : va_G} {g : zG} {A : Nat → Prop} {w0 : va_W} {b0 : Nat} {a : Nat → Nat} {C : zMS} {f : Nat → Int32} {nn : Nat} (Hb : acB X l D g A w0) (hV : KV C) (ha0 : a 0 = b0) (j u p c s am : Nat) (hj : j < 2 ^ 31) (hu : u < 2 ^ 27) (hp0 : p < 80) (hc0 : c < 16) (hs0 : s < 8) (ham : am < 91) (k n : Nat) (hk : k + 2 ≤ 6) (hn : n + 12 ≤ 419) : zJ X 9 (zI1 D A (zs X)) (acQ X D g A w0 b0 f nn (o_restores C (nI c))) ([(nn, .inl (g.1, 3, .inl f))] ++ wC g a C (4 * cM C)) k n [(0, .ref (a 0)), (1, .ref (nn)), (2, .int (nI (j))), (3, .int (nI (u))), (4, .int (nI (p))), (5, .int (nI (c))), (6, .int (nI (s))), (7, .int (nI (am)))] 391 [] := by
  obtain ⟨hAe, hl, B, hr, hLF, hst⟩ := id Hb
  have hI := KV_I hV
  have hJ := KV_J hV
  have bP := CI_b19 hI
  have bM := CI_b20 hI
  have bK := CI_b22 hI
  have bT := CI_b0 hI
  refine z_aload_n B 0 dL_act_391 rfl rfl ?_
  refine z_iload B 5 dL_act_392 rfl ?_
  refine z_callW (As := [.ref (a 0), .int (nI (c))]) (st := [])  B hLF hl (fo_restores l D g a C hst hI hJ (nI (c))) gL_act_L_restores rfl ⟨rfl, rfl⟩ nm_L_restores ⟨by decide, by decide⟩ rfl (Nat.le_of_ble_eq_true rfl) dL_act_394 (by omega) (by omega) (show k + 2 ≤ 6 by omega) (show n + 12 ≤ 419 by omega) (fun r w1 hpq => ?_)
  exact z_mret B hAe hr dL_act_397 rfl (by omega) (by omega) (⟨a, ha0, hpq.1, by rw [hpq.2]⟩)
set_option maxHeartbeats 4000000 in
set_option maxRecDepth 100000 in
theorem ac_398 {X : zX} {l : Launch} {D : va_G} {g : zG} {A : Nat → Prop} {w0 : va_W} {b0 : Nat} {a : Nat → Nat} {C : zMS} {f : Nat → Int32} {nn : Nat} (Hb : acB X l D g A w0) (hV : KV C) (ha0 : a 0 = b0) (j u p c s am : Nat) (hj : j < 2 ^ 31) (hu : u < 2 ^ 27) (hp0 : p < 80) (hc0 : c < 16) (hs0 : s < 8) (ham : am < 91) (k n : Nat) (hk : k + 1 ≤ 6) (hn : n + 6 ≤ 419) : zJ X 9 (zI1 D A (zs X)) (acQ X D g A w0 b0 f nn (o_opens C)) ([(nn, .inl (g.1, 3, .inl f))] ++ wC g a C (4 * cM C)) k n [(0, .ref (a 0)), (1, .ref (nn)), (2, .int (nI (j))), (3, .int (nI (u))), (4, .int (nI (p))), (5, .int (nI (c))), (6, .int (nI (s))), (7, .int (nI (am)))] 398 [] := by
  obtain ⟨hAe, hl, B, hr, hLF, hst⟩ := id Hb
  have hI := KV_I hV
  have hJ := KV_J hV
  have bP := CI_b19 hI
  have bM := CI_b20 hI
  have bK := CI_b22 hI
  have bT := CI_b0 hI
  refine z_aload_n B 0 dL_act_398 rfl rfl ?_
  refine z_callW (As := [.ref (a 0)]) (st := [])  B hLF hl (fo_opens l D g a C hst hI) gL_act_L_opens rfl ⟨rfl, rfl⟩ nm_L_opens ⟨by decide, by decide⟩ rfl (Nat.le_of_ble_eq_true rfl) dL_act_399 (by omega) (by omega) (show k + 1 ≤ 6 by omega) (show n + 6 ≤ 419 by omega) (fun r w1 hpq => ?_)
  exact z_mret B hAe hr dL_act_402 rfl (by omega) (by omega) (⟨a, ha0, hpq.1, by rw [hpq.2]⟩)
set_option maxHeartbeats 4000000 in
set_option maxRecDepth 100000 in
theorem ac_403 {X : zX} {l : Launch} {D : va_G} {g : zG} {A : Nat → Prop} {w0 : va_W} {b0 : Nat} {a : Nat → Nat} {C : zMS} {f : Nat → Int32} {nn : Nat} (Hb : acB X l D g A w0) (hV : KV C) (ha0 : a 0 = b0) (j u p c s am : Nat) (hj : j < 2 ^ 31) (hu : u < 2 ^ 27) (hp0 : p < 80) (hc0 : c < 16) (hs0 : s < 8) (ham : am < 91) (k n : Nat) (hk : k + 2 ≤ 6) (hn : n + 12 ≤ 419) : zJ X 9 (zI1 D A (zs X)) (acQ X D g A w0 b0 f nn (acCl C u s)) ([(nn, .inl (g.1, 3, .inl f))] ++ wC g a C (4 * cM C)) k n [(0, .ref (a 0)), (1, .ref (nn)), (2, .int (nI (j))), (3, .int (nI (u))), (4, .int (nI (p))), (5, .int (nI (c))), (6, .int (nI (s))), (7, .int (nI (am)))] 403 [] := by
  obtain ⟨hAe, hl, B, hr, hLF, hst⟩ := id Hb
  have hI := KV_I hV
  have hJ := KV_J hV
  have bP := CI_b19 hI
  have bM := CI_b20 hI
  have bK := CI_b22 hI
  have bT := CI_b0 hI
  refine z_iload_n B 3 dL_act_403 rfl rfl ?_
  refine z_bipush (v := nI 16) B dL_act_404 (by decide) ?_
  refine z_idivN B (by omega) (by omega) (by omega) dL_act_406 ?_
  refine z_iconst (v := nI 3) B dL_act_407 (by decide) ?_
  refine z_iremN B (by omega) (by omega) (by omega) dL_act_408 ?_
  refine z_ifN_ne B 421 dL_act_409 (by decide) (by omega) (fun c409 => ?_) (fun c409 => ?_)
  · refine z_aload_n B 0 dL_act_421 rfl rfl ?_
    refine z_iload B 6 dL_act_422 rfl ?_
    refine z_callW (As := [.ref (a 0), .int (nI (s))]) (st := [])  B hLF hl (fo_isOpen l D g a C hst hI (nI (s))) gL_act_L_isOpen rfl ⟨rfl, rfl⟩ nm_L_isOpen ⟨by decide, by decide⟩ rfl (Nat.le_of_ble_eq_true rfl) dL_act_424 (by omega) (by omega) (show k + 1 ≤ 6 by omega) (show n + 6 ≤ 419 by omega) (fun r w1 hpq => ?_)
    exact z_mret B hAe hr dL_act_427 rfl (by omega) (by omega) (by first | (rw [acCl, if_pos c409]; exact ⟨a, ha0, hpq.1, by rw [hpq.2]⟩) | (rw [acCl, if_neg (by omega)]; exact ⟨a, ha0, hpq.1, by rw [hpq.2]⟩))
  · refine z_aload_n B 0 dL_act_412 rfl rfl ?_
    refine z_iload B 6 dL_act_413 rfl ?_
    refine z_callW (As := [.ref (a 0), .int (nI (s))]) (st := [])  B hLF hl (fo_closes l D g a C hst hI (nI (s))) gL_act_L_closes rfl ⟨rfl, rfl⟩ nm_L_closes ⟨by decide, by decide⟩ rfl (Nat.le_of_ble_eq_true rfl) dL_act_415 (by omega) (by omega) (show k + 2 ≤ 6 by omega) (show n + 12 ≤ 419 by omega) (fun r w1 hpq => ?_)
    refine z_goto B 427 dL_act_418 (by decide) ?_
    exact z_mret B hAe hr dL_act_427 rfl (by omega) (by omega) (by first | (rw [acCl, if_pos c409]; exact ⟨a, ha0, hpq.1, by rw [hpq.2]⟩) | (rw [acCl, if_neg (by omega)]; exact ⟨a, ha0, hpq.1, by rw [hpq.2]⟩))
set_option maxHeartbeats 4000000 in
set_option maxRecDepth 100000 in
theorem ac_428 {X : zX} {l : Launch} {D : va_G} {g : zG} {A : Nat → Prop} {w0 : va_W} {b0 : Nat} {a : Nat → Nat} {C : zMS} {f : Nat → Int32} {nn : Nat} (Hb : acB X l D g A w0) (hV : KV C) (ha0 : a 0 = b0) (j u p c s am : Nat) (hj : j < 2 ^ 31) (hu : u < 2 ^ 27) (hp0 : p < 80) (hc0 : c < 16) (hs0 : s < 8) (ham : am < 91) (k n : Nat) (hk : k + 3 ≤ 6) (hn : n + 18 ≤ 419) : zJ X 9 (zI1 D A (zs X)) (acQ X D g A w0 b0 f nn (o_holds C (nI s) (nI (u / 8 % 8)) (nI (acFr C u)) (nI (acTo C u)))) ([(nn, .inl (g.1, 3, .inl f))] ++ wC g a C (4 * cM C)) k n [(0, .ref (a 0)), (1, .ref (nn)), (2, .int (nI (j))), (3, .int (nI (u))), (4, .int (nI (p))), (5, .int (nI (c))), (6, .int (nI (s))), (7, .int (nI (am)))] 428 [] := by
  obtain ⟨hAe, hl, B, hr, hLF, hst⟩ := id Hb
  have hI := KV_I hV
  have hJ := KV_J hV
  have bP := CI_b19 hI
  have bM := CI_b20 hI
  have bK := CI_b22 hI
  have bT := CI_b0 hI
  refine z_aload_n B 0 dL_act_428 rfl rfl ?_
  refine z_iload B 6 dL_act_429 rfl ?_
  refine z_iload_n B 3 dL_act_431 rfl rfl ?_
  refine z_bipush (v := nI 8) B dL_act_432 (by decide) ?_
  refine z_idivN B (by omega) (by omega) (by omega) dL_act_434 ?_
  refine z_bipush (v := nI 8) B dL_act_435 (by decide) ?_
  refine z_iremN B (by omega) (by omega) (by omega) dL_act_437 ?_
  refine z_iload_n B 3 dL_act_438 rfl rfl ?_
  refine z_bipush (v := nI 64) B dL_act_439 (by decide) ?_
  refine z_idivN B (by omega) (by omega) (by omega) dL_act_441 ?_
  refine z_iconst (v := nI 2) B dL_act_442 (by decide) ?_
  refine z_iremN B (by omega) (by omega) (by omega) dL_act_443 ?_
  refine z_ifN_ne B 451 dL_act_444 (by decide) (by omega) (fun c444 => ?_) (fun c444 => ?_)
  · refine z_aload_n B 0 dL_act_451 rfl rfl ?_
    refine z_callP (As := []) (st := [.int (nI ((u / 8) % 8)), .int (nI (s)), .ref (a 0)]) (C := RX6) (T := TX6) (N := 6) (ci := 6) (l := l) B hl (cc_X6_day l D g a C (4 * cM C) hI) gL_act_X6_day rfl ⟨rfl, rfl⟩ nm_X6_day ⟨by decide, by decide⟩ (fun _ h => sub_r h) 0 rfl rfl rfl (Nat.le_of_ble_eq_true rfl) dL_act_452 (show k ≤ 6 by omega) (show n ≤ 419 by omega) (fun r hr1 => ?_)
    obtain rfl := hr1
    refine z_top (y := nI (acFr C u)) (by rw [acFr, if_neg (by omega)]) ?_
    refine z_sipush (v := nI 400) B dL_act_455 (by decide) ?_
    refine z_iload_n B 3 dL_act_458 rfl rfl ?_
    refine z_sipush (v := nI 128) B dL_act_459 (by decide) ?_
    refine z_idivN B (by omega) (by omega) (by omega) dL_act_462 ?_
    refine z_sipush (v := nI 390) B dL_act_463 (by decide) ?_
    refine z_iremN B (by omega) (by omega) (by omega) dL_act_466 ?_
    refine z_isubN B dL_act_467 (by omega) ?_
    refine z_aload_n B 0 dL_act_468 rfl rfl ?_
    refine z_callP (As := []) (st := [.int (nI (400 - ((u / 128) % 390))), .int (nI (acFr C u)), .int (nI ((u / 8) % 8)), .int (nI (s)), .ref (a 0)]) (C := RX6) (T := TX6) (N := 6) (ci := 6) (l := l) B hl (cc_X6_day l D g a C (4 * cM C) hI) gL_act_X6_day rfl ⟨rfl, rfl⟩ nm_X6_day ⟨by decide, by decide⟩ (fun _ h => sub_r h) 0 rfl rfl rfl (Nat.le_of_ble_eq_true rfl) dL_act_469 (show k ≤ 6 by omega) (show n ≤ 419 by omega) (fun r hr1 => ?_)
    obtain rfl := hr1
    refine z_icmpN_ge B 481 dL_act_472 (by decide) (by omega) (by omega) (fun c472 => ?_) (fun c472 => ?_)
    · refine z_sipush (v := nI 400) B dL_act_481 (by decide) ?_
      refine z_iload_n B 3 dL_act_484 rfl rfl ?_
      refine z_sipush (v := nI 128) B dL_act_485 (by decide) ?_
      refine z_idivN B (by omega) (by omega) (by omega) dL_act_488 ?_
      refine z_sipush (v := nI 390) B dL_act_489 (by decide) ?_
      refine z_iremN B (by omega) (by omega) (by omega) dL_act_492 ?_
      refine z_isub B dL_act_493 ?_
      refine z_top (y := nI (acTo C u)) (by rw [acTo, if_neg (by omega), pk_sub (by omega)]) ?_
      refine z_callW (As := [.ref (a 0), .int (nI (s)), .int (nI ((u / 8) % 8)), .int (nI (acFr C u)), .int (nI (acTo C u))]) (st := [])  B hLF hl (fo_holds l D g a C hst hI (nI (s)) (nI ((u / 8) % 8)) (nI (acFr C u)) (nI (acTo C u))) gL_act_L_holds rfl ⟨rfl, rfl⟩ nm_L_holds ⟨by decide, by decide⟩ rfl (Nat.le_of_ble_eq_true rfl) dL_act_494 (by omega) (by omega) (show k + 3 ≤ 6 by omega) (show n + 18 ≤ 419 by omega) (fun r w1 hpq => ?_)
      exact z_mret B hAe hr dL_act_497 rfl (by omega) (by omega) (⟨a, ha0, hpq.1, by rw [hpq.2]⟩)
    · refine z_sipush (v := nI 400) B dL_act_475 (by decide) ?_
      refine z_top (y := nI (acTo C u)) (by rw [acTo, if_pos c472]) ?_
      refine z_goto B 494 dL_act_478 (by decide) ?_
      refine z_callW (As := [.ref (a 0), .int (nI (s)), .int (nI ((u / 8) % 8)), .int (nI (acFr C u)), .int (nI (acTo C u))]) (st := [])  B hLF hl (fo_holds l D g a C hst hI (nI (s)) (nI ((u / 8) % 8)) (nI (acFr C u)) (nI (acTo C u))) gL_act_L_holds rfl ⟨rfl, rfl⟩ nm_L_holds ⟨by decide, by decide⟩ rfl (Nat.le_of_ble_eq_true rfl) dL_act_494 (by omega) (by omega) (show k + 3 ≤ 6 by omega) (show n + 18 ≤ 419 by omega) (fun r w1 hpq => ?_)
      exact z_mret B hAe hr dL_act_497 rfl (by omega) (by omega) (⟨a, ha0, hpq.1, by rw [hpq.2]⟩)
  · refine z_iconst (v := nI 0) B dL_act_447 (by decide) ?_
    refine z_top (y := nI (acFr C u)) (by rw [acFr, if_pos c444]) ?_
    refine z_goto B 455 dL_act_448 (by decide) ?_
    refine z_sipush (v := nI 400) B dL_act_455 (by decide) ?_
    refine z_iload_n B 3 dL_act_458 rfl rfl ?_
    refine z_sipush (v := nI 128) B dL_act_459 (by decide) ?_
    refine z_idivN B (by omega) (by omega) (by omega) dL_act_462 ?_
    refine z_sipush (v := nI 390) B dL_act_463 (by decide) ?_
    refine z_iremN B (by omega) (by omega) (by omega) dL_act_466 ?_
    refine z_isubN B dL_act_467 (by omega) ?_
    refine z_aload_n B 0 dL_act_468 rfl rfl ?_
    refine z_callP (As := []) (st := [.int (nI (400 - ((u / 128) % 390))), .int (nI (acFr C u)), .int (nI ((u / 8) % 8)), .int (nI (s)), .ref (a 0)]) (C := RX6) (T := TX6) (N := 6) (ci := 6) (l := l) B hl (cc_X6_day l D g a C (4 * cM C) hI) gL_act_X6_day rfl ⟨rfl, rfl⟩ nm_X6_day ⟨by decide, by decide⟩ (fun _ h => sub_r h) 0 rfl rfl rfl (Nat.le_of_ble_eq_true rfl) dL_act_469 (show k ≤ 6 by omega) (show n ≤ 419 by omega) (fun r hr1 => ?_)
    obtain rfl := hr1
    refine z_icmpN_ge B 481 dL_act_472 (by decide) (by omega) (by omega) (fun c472 => ?_) (fun c472 => ?_)
    · refine z_sipush (v := nI 400) B dL_act_481 (by decide) ?_
      refine z_iload_n B 3 dL_act_484 rfl rfl ?_
      refine z_sipush (v := nI 128) B dL_act_485 (by decide) ?_
      refine z_idivN B (by omega) (by omega) (by omega) dL_act_488 ?_
      refine z_sipush (v := nI 390) B dL_act_489 (by decide) ?_
      refine z_iremN B (by omega) (by omega) (by omega) dL_act_492 ?_
      refine z_isub B dL_act_493 ?_
      refine z_top (y := nI (acTo C u)) (by rw [acTo, if_neg (by omega), pk_sub (by omega)]) ?_
      refine z_callW (As := [.ref (a 0), .int (nI (s)), .int (nI ((u / 8) % 8)), .int (nI (acFr C u)), .int (nI (acTo C u))]) (st := [])  B hLF hl (fo_holds l D g a C hst hI (nI (s)) (nI ((u / 8) % 8)) (nI (acFr C u)) (nI (acTo C u))) gL_act_L_holds rfl ⟨rfl, rfl⟩ nm_L_holds ⟨by decide, by decide⟩ rfl (Nat.le_of_ble_eq_true rfl) dL_act_494 (by omega) (by omega) (show k + 3 ≤ 6 by omega) (show n + 18 ≤ 419 by omega) (fun r w1 hpq => ?_)
      exact z_mret B hAe hr dL_act_497 rfl (by omega) (by omega) (⟨a, ha0, hpq.1, by rw [hpq.2]⟩)
    · refine z_sipush (v := nI 400) B dL_act_475 (by decide) ?_
      refine z_top (y := nI (acTo C u)) (by rw [acTo, if_pos c472]) ?_
      refine z_goto B 494 dL_act_478 (by decide) ?_
      refine z_callW (As := [.ref (a 0), .int (nI (s)), .int (nI ((u / 8) % 8)), .int (nI (acFr C u)), .int (nI (acTo C u))]) (st := [])  B hLF hl (fo_holds l D g a C hst hI (nI (s)) (nI ((u / 8) % 8)) (nI (acFr C u)) (nI (acTo C u))) gL_act_L_holds rfl ⟨rfl, rfl⟩ nm_L_holds ⟨by decide, by decide⟩ rfl (Nat.le_of_ble_eq_true rfl) dL_act_494 (by omega) (by omega) (show k + 3 ≤ 6 by omega) (show n + 18 ≤ 419 by omega) (fun r w1 hpq => ?_)
      exact z_mret B hAe hr dL_act_497 rfl (by omega) (by omega) (⟨a, ha0, hpq.1, by rw [hpq.2]⟩)
set_option maxHeartbeats 4000000 in
set_option maxRecDepth 100000 in
theorem ac_498 {X : zX} {l : Launch} {D : va_G} {g : zG} {A : Nat → Prop} {w0 : va_W} {b0 : Nat} {a : Nat → Nat} {C : zMS} {f : Nat → Int32} {nn : Nat} (Hb : acB X l D g A w0) (hV : KV C) (ha0 : a 0 = b0) (j u p c s am : Nat) (hj : j < 2 ^ 31) (hu : u < 2 ^ 27) (hp0 : p < 80) (hc0 : c < 16) (hs0 : s < 8) (ham : am < 91) (k n : Nat) (hk : k + 3 ≤ 6) (hn : n + 18 ≤ 419) : zJ X 9 (zI1 D A (zs X)) (acQ X D g A w0 b0 f nn (o_strikes C (nI s) (nI p))) ([(nn, .inl (g.1, 3, .inl f))] ++ wC g a C (4 * cM C)) k n [(0, .ref (a 0)), (1, .ref (nn)), (2, .int (nI (j))), (3, .int (nI (u))), (4, .int (nI (p))), (5, .int (nI (c))), (6, .int (nI (s))), (7, .int (nI (am)))] 498 [] := by
  obtain ⟨hAe, hl, B, hr, hLF, hst⟩ := id Hb
  have hI := KV_I hV
  have hJ := KV_J hV
  have bP := CI_b19 hI
  have bM := CI_b20 hI
  have bK := CI_b22 hI
  have bT := CI_b0 hI
  refine z_aload_n B 0 dL_act_498 rfl rfl ?_
  refine z_iload B 6 dL_act_499 rfl ?_
  refine z_iload B 4 dL_act_501 rfl ?_
  refine z_callW (As := [.ref (a 0), .int (nI (s)), .int (nI (p))]) (st := [])  B hLF hl (fo_strikes l D g a C hst hI (nI (s)) (nI (p))) gL_act_L_strikes rfl ⟨rfl, rfl⟩ nm_L_strikes ⟨by decide, by decide⟩ rfl (Nat.le_of_ble_eq_true rfl) dL_act_503 (by omega) (by omega) (show k + 3 ≤ 6 by omega) (show n + 18 ≤ 419 by omega) (fun r w1 hpq => ?_)
  exact z_mret B hAe hr dL_act_506 rfl (by omega) (by omega) (⟨a, ha0, hpq.1, by rw [hpq.2]⟩)
set_option maxHeartbeats 4000000 in
set_option maxRecDepth 100000 in
theorem ac_72 {X : zX} {l : Launch} {D : va_G} {g : zG} {A : Nat → Prop} {w0 : va_W} {b0 : Nat} {a : Nat → Nat} {C : zMS} {f : Nat → Int32} {nn : Nat} (Hb : acB X l D g A w0) (hV : KV C) (ha0 : a 0 = b0) (j u p c s am : Nat) (hj : j < 2 ^ 31) (hu : u < 2 ^ 27) (hp0 : p < 80) (hc0 : c < 16) (hs0 : s < 8) (ham : am < 91) (kd : Nat) (hkd : kd < 32) (k n : Nat) (hk : k + 6 ≤ 6) (hn : n + 419 ≤ 419) : zJ X 9 (zI1 D A (zs X)) (acQ X D g A w0 b0 f nn (acG C kd u p c s am)) ([(nn, .inl (g.1, 3, .inl f))] ++ wC g a C (4 * cM C)) k n [(0, .ref (a 0)), (1, .ref (nn)), (2, .int (nI (j))), (3, .int (nI (u))), (4, .int (nI (p))), (5, .int (nI (c))), (6, .int (nI (s))), (7, .int (nI (am)))] 72 [.int (nI (kd))] := by
  have B := Hb.2.2.1
  match kd, hkd with
  | 0, _ => exact z_tabIn B 196 dL_act_72 (by decide) (by decide) rfl (by decide) (ac_196 Hb hV ha0 j u p c s am hj hu hp0 hc0 hs0 ham k n (by omega) (by omega))
  | 1, _ => exact z_tabIn B 207 dL_act_72 (by decide) (by decide) rfl (by decide) (ac_207 Hb hV ha0 j u p c s am hj hu hp0 hc0 hs0 ham k n (by omega) (by omega))
  | 2, _ => exact z_tabIn B 207 dL_act_72 (by decide) (by decide) rfl (by decide) (ac_207 Hb hV ha0 j u p c s am hj hu hp0 hc0 hs0 ham k n (by omega) (by omega))
  | 3, _ => exact z_tabIn B 207 dL_act_72 (by decide) (by decide) rfl (by decide) (ac_207 Hb hV ha0 j u p c s am hj hu hp0 hc0 hs0 ham k n (by omega) (by omega))
  | 4, _ => exact z_tabIn B 207 dL_act_72 (by decide) (by decide) rfl (by decide) (ac_207 Hb hV ha0 j u p c s am hj hu hp0 hc0 hs0 ham k n (by omega) (by omega))
  | 5, _ => exact z_tabIn B 251 dL_act_72 (by decide) (by decide) rfl (by decide) (ac_251 Hb hV ha0 j u p c s am hj hu hp0 hc0 hs0 ham k n (by omega) (by omega))
  | 6, _ => exact z_tabIn B 256 dL_act_72 (by decide) (by decide) rfl (by decide) (ac_256 Hb hV ha0 j u p c s am hj hu hp0 hc0 hs0 ham k n (by omega) (by omega))
  | 7, _ => exact z_tabIn B 256 dL_act_72 (by decide) (by decide) rfl (by decide) (ac_256 Hb hV ha0 j u p c s am hj hu hp0 hc0 hs0 ham k n (by omega) (by omega))
  | 8, _ => exact z_tabIn B 256 dL_act_72 (by decide) (by decide) rfl (by decide) (ac_256 Hb hV ha0 j u p c s am hj hu hp0 hc0 hs0 ham k n (by omega) (by omega))
  | 9, _ => exact z_tabIn B 256 dL_act_72 (by decide) (by decide) rfl (by decide) (ac_256 Hb hV ha0 j u p c s am hj hu hp0 hc0 hs0 ham k n (by omega) (by omega))
  | 10, _ => exact z_tabIn B 266 dL_act_72 (by decide) (by decide) rfl (by decide) (ac_266 Hb hV ha0 j u p c s am hj hu hp0 hc0 hs0 ham k n (by omega) (by omega))
  | 11, _ => exact z_tabIn B 273 dL_act_72 (by decide) (by decide) rfl (by decide) (ac_273 Hb hV ha0 j u p c s am hj hu hp0 hc0 hs0 ham k n (by omega) (by omega))
  | 12, _ => exact z_tabIn B 289 dL_act_72 (by decide) (by decide) rfl (by decide) (ac_289 Hb hV ha0 j u p c s am hj hu hp0 hc0 hs0 ham k n (by omega) (by omega))
  | 13, _ => exact z_tabIn B 313 dL_act_72 (by decide) (by decide) rfl (by decide) (ac_313 Hb hV ha0 j u p c s am hj hu hp0 hc0 hs0 ham k n (by omega) (by omega))
  | 14, _ => exact z_tabIn B 313 dL_act_72 (by decide) (by decide) rfl (by decide) (ac_313 Hb hV ha0 j u p c s am hj hu hp0 hc0 hs0 ham k n (by omega) (by omega))
  | 15, _ => exact z_tabIn B 324 dL_act_72 (by decide) (by decide) rfl (by decide) (ac_324 Hb hV ha0 j u p c s am hj hu hp0 hc0 hs0 ham k n (by omega) (by omega))
  | 16, _ => exact z_tabIn B 329 dL_act_72 (by decide) (by decide) rfl (by decide) (ac_329 Hb hV ha0 j u p c s am hj hu hp0 hc0 hs0 ham k n (by omega) (by omega))
  | 17, _ => exact z_tabIn B 329 dL_act_72 (by decide) (by decide) rfl (by decide) (ac_329 Hb hV ha0 j u p c s am hj hu hp0 hc0 hs0 ham k n (by omega) (by omega))
  | 18, _ => exact z_tabIn B 336 dL_act_72 (by decide) (by decide) rfl (by decide) (ac_336 Hb hV ha0 j u p c s am hj hu hp0 hc0 hs0 ham k n (by omega) (by omega))
  | 19, _ => exact z_tabIn B 357 dL_act_72 (by decide) (by decide) rfl (by decide) (ac_357 Hb hV ha0 j u p c s am hj hu hp0 hc0 hs0 ham k n (by omega) (by omega))
  | 20, _ => exact z_tabIn B 366 dL_act_72 (by decide) (by decide) rfl (by decide) (ac_366 Hb hV ha0 j u p c s am hj hu hp0 hc0 hs0 ham k n (by omega) (by omega))
  | 21, _ => exact z_tabIn B 391 dL_act_72 (by decide) (by decide) rfl (by decide) (ac_391 Hb hV ha0 j u p c s am hj hu hp0 hc0 hs0 ham k n (by omega) (by omega))
  | 22, _ => exact z_tabIn B 391 dL_act_72 (by decide) (by decide) rfl (by decide) (ac_391 Hb hV ha0 j u p c s am hj hu hp0 hc0 hs0 ham k n (by omega) (by omega))
  | 23, _ => exact z_tabIn B 398 dL_act_72 (by decide) (by decide) rfl (by decide) (ac_398 Hb hV ha0 j u p c s am hj hu hp0 hc0 hs0 ham k n (by omega) (by omega))
  | 24, _ => exact z_tabIn B 403 dL_act_72 (by decide) (by decide) rfl (by decide) (ac_403 Hb hV ha0 j u p c s am hj hu hp0 hc0 hs0 ham k n (by omega) (by omega))
  | 25, _ => exact z_tabIn B 428 dL_act_72 (by decide) (by decide) rfl (by decide) (ac_428 Hb hV ha0 j u p c s am hj hu hp0 hc0 hs0 ham k n (by omega) (by omega))
  | 26, _ => exact z_tabIn B 428 dL_act_72 (by decide) (by decide) rfl (by decide) (ac_428 Hb hV ha0 j u p c s am hj hu hp0 hc0 hs0 ham k n (by omega) (by omega))
  | kd + 27, hkd =>
    have e : acG C (kd + 27) u p c s am = o_strikes C (nI s) (nI p) := by unfold acG; rw [if_neg (by omega), if_neg (by omega), if_neg (by omega), if_neg (by omega), if_neg (by omega), if_neg (by omega), if_neg (by omega), if_neg (by omega), if_neg (by omega), if_neg (by omega), if_neg (by omega), if_neg (by omega), if_neg (by omega), if_neg (by omega), if_neg (by omega), if_neg (by omega), if_neg (by omega)]
    rw [e]
    exact z_tabOut B 498 dL_act_72 (Or.inr (by rw [nI_toInt (by omega)]; omega)) (by decide) (ac_498 Hb hV ha0 j u p c s am hj hu hp0 hc0 hs0 ham k n (by omega) (by omega))
set_option maxHeartbeats 4000000 in
set_option maxRecDepth 100000 in
theorem ac_41 {X : zX} {l : Launch} {D : va_G} {g : zG} {A : Nat → Prop} {w0 : va_W} {b0 : Nat} {a : Nat → Nat} {C : zMS} {f : Nat → Int32} {nn : Nat} (Hb : acB X l D g A w0) (hV : KV C) (ha0 : a 0 = b0) (hf0 : f 0 = nI (cM C)) (hf1 : f 1 = nI (cK C)) (j : Nat) (hj : j < 2 ^ 31) (k n : Nat) (hk : k + 6 ≤ 6) (hn : n + 419 ≤ 419) : zJ X 9 (zI1 D A (zs X)) (acQ X D g A w0 b0 f nn (acF C j)) ([(nn, .inl (g.1, 3, .inl f))] ++ wC g a C (4 * cM C)) k n [(0, .ref (a 0)), (1, .ref (nn)), (2, .int (nI (j))), (3, .int (nI (j / 32))), (4, .int (nI (acI (cP C) (j / 32)))), (5, .int (nI (acI (cM C) (j / 32))))] 41 [] := by
  obtain ⟨hAe, hl, B, hr, hLF, hst⟩ := id Hb
  have hI := KV_I hV
  have hJ := KV_J hV
  have bP := CI_b19 hI
  have bM := CI_b20 hI
  have bK := CI_b22 hI
  have bT := CI_b0 hI
  have i1 := acI_lt (u := j / 32) bP (by omega)
  have i2 := acI_lt (u := j / 32) bM (by omega)
  have i3 := acI_lt (u := j / 32) bK (by omega)
  refine z_aload_n B 1 dL_act_41 rfl rfl ?_
  refine z_iconst (v := nI 1) B dL_act_42 (by decide) ?_
  refine z_iald (g := f) (i := 1) B 0 0 rfl rfl (by omega) (by decide) dL_act_43 ?_
  refine z_top (y := nI (cK C)) hf1 ?_
  refine z_ifN_ne B 51 dL_act_44 (by decide) (by omega) (fun c44 => ?_) (fun c44 => ?_)
  · refine z_iload_n B 3 dL_act_51 rfl rfl ?_
    refine z_aload_n B 1 dL_act_52 rfl rfl ?_
    refine z_iconst (v := nI 1) B dL_act_53 (by decide) ?_
    refine z_iald (g := f) (i := 1) B 0 0 rfl rfl (by omega) (by decide) dL_act_54 ?_
    refine z_top (y := nI (cK C)) hf1 ?_
    refine z_iremN B (by omega) (by omega) (by omega) dL_act_55 ?_
    refine z_top (y := nI (acI (cK C) (j / 32))) (by rw [acI, if_neg (by omega)]) ?_
    refine z_istore (lv1 := [(6, .int (nI (acI (cK C) (j / 32)))), (0, .ref (a 0)), (1, .ref (nn)), (2, .int (nI (j))), (3, .int (nI (j / 32))), (4, .int (nI (acI (cP C) (j / 32)))), (5, .int (nI (acI (cM C) (j / 32))))]) B dL_act_56 (by decide) rfl ?_
    refine z_iconst (v := nI 1) B dL_act_58 (by decide) ?_
    refine z_iload_n B 4 dL_act_59 rfl rfl ?_
    refine z_iconst (v := nI 4) B dL_act_60 (by decide) ?_
    refine z_idivN B (by omega) (by omega) (by omega) dL_act_61 ?_
    refine z_bipush (v := nI 90) B dL_act_62 (by decide) ?_
    refine z_iremN B (by omega) (by omega) (by omega) dL_act_64 ?_
    refine z_iaddN B dL_act_65 ?_
    refine z_istore (lv1 := [(7, .int (nI (1 + (((j / 32) / 4) % 90)))), (6, .int (nI (acI (cK C) (j / 32)))), (0, .ref (a 0)), (1, .ref (nn)), (2, .int (nI (j))), (3, .int (nI (j / 32))), (4, .int (nI (acI (cP C) (j / 32)))), (5, .int (nI (acI (cM C) (j / 32))))]) B dL_act_66 (by decide) rfl ?_
    refine z_iload_n B 4 dL_act_68 rfl rfl ?_
    refine z_bipush (v := nI 32) B dL_act_69 (by decide) ?_
    refine z_iremN B (by omega) (by omega) (by omega) dL_act_71 ?_
    refine z_loc [2, 3, 4, 5, 6, 7, 1, 0] (lv' := [(0, .ref (a 0)), (1, .ref (nn)), (2, .int (nI (j))), (3, .int (nI (j / 32))), (4, .int (nI (acI (cP C) (j / 32)))), (5, .int (nI (acI (cM C) (j / 32)))), (6, .int (nI (acI (cK C) (j / 32)))), (7, .int (nI (1 + (((j / 32) / 4) % 90))))]) rfl ?_
    refine z_lvc (lv' := [(0, .ref (a 0)), (1, .ref (nn)), (2, .int (nI (j))), (3, .int (nI (j / 32))), (4, .int (nI (acI (cP C) (j / 32)))), (5, .int (nI (acI (cM C) (j / 32)))), (6, .int (nI (acI (cK C) (j / 32)))), (7, .int (nI (1 + j / 32 / 4 % 90)))]) (by rfl) ?_
    exact ac_72 Hb hV ha0 j (j / 32) (acI (cP C) (j / 32)) (acI (cM C) (j / 32)) (acI (cK C) (j / 32)) (1 + j / 32 / 4 % 90) hj (by omega) i1 i2 i3 (by omega) (j % 32) (Nat.mod_lt _ (by omega)) (k) (n) (by omega) (by omega)
  · refine z_iconst (v := nI 0) B dL_act_47 (by decide) ?_
    refine z_top (y := nI (acI (cK C) (j / 32))) (by rw [acI, if_pos c44]) ?_
    refine z_goto B 56 dL_act_48 (by decide) ?_
    refine z_istore (lv1 := [(6, .int (nI (acI (cK C) (j / 32)))), (0, .ref (a 0)), (1, .ref (nn)), (2, .int (nI (j))), (3, .int (nI (j / 32))), (4, .int (nI (acI (cP C) (j / 32)))), (5, .int (nI (acI (cM C) (j / 32))))]) B dL_act_56 (by decide) rfl ?_
    refine z_iconst (v := nI 1) B dL_act_58 (by decide) ?_
    refine z_iload_n B 4 dL_act_59 rfl rfl ?_
    refine z_iconst (v := nI 4) B dL_act_60 (by decide) ?_
    refine z_idivN B (by omega) (by omega) (by omega) dL_act_61 ?_
    refine z_bipush (v := nI 90) B dL_act_62 (by decide) ?_
    refine z_iremN B (by omega) (by omega) (by omega) dL_act_64 ?_
    refine z_iaddN B dL_act_65 ?_
    refine z_istore (lv1 := [(7, .int (nI (1 + (((j / 32) / 4) % 90)))), (6, .int (nI (acI (cK C) (j / 32)))), (0, .ref (a 0)), (1, .ref (nn)), (2, .int (nI (j))), (3, .int (nI (j / 32))), (4, .int (nI (acI (cP C) (j / 32)))), (5, .int (nI (acI (cM C) (j / 32))))]) B dL_act_66 (by decide) rfl ?_
    refine z_iload_n B 4 dL_act_68 rfl rfl ?_
    refine z_bipush (v := nI 32) B dL_act_69 (by decide) ?_
    refine z_iremN B (by omega) (by omega) (by omega) dL_act_71 ?_
    refine z_loc [2, 3, 4, 5, 6, 7, 1, 0] (lv' := [(0, .ref (a 0)), (1, .ref (nn)), (2, .int (nI (j))), (3, .int (nI (j / 32))), (4, .int (nI (acI (cP C) (j / 32)))), (5, .int (nI (acI (cM C) (j / 32)))), (6, .int (nI (acI (cK C) (j / 32)))), (7, .int (nI (1 + (((j / 32) / 4) % 90))))]) rfl ?_
    refine z_lvc (lv' := [(0, .ref (a 0)), (1, .ref (nn)), (2, .int (nI (j))), (3, .int (nI (j / 32))), (4, .int (nI (acI (cP C) (j / 32)))), (5, .int (nI (acI (cM C) (j / 32)))), (6, .int (nI (acI (cK C) (j / 32)))), (7, .int (nI (1 + j / 32 / 4 % 90)))]) (by rfl) ?_
    exact ac_72 Hb hV ha0 j (j / 32) (acI (cP C) (j / 32)) (acI (cM C) (j / 32)) (acI (cK C) (j / 32)) (1 + j / 32 / 4 % 90) hj (by omega) i1 i2 i3 (by omega) (j % 32) (Nat.mod_lt _ (by omega)) (k) (n) (by omega) (by omega)
set_option maxHeartbeats 4000000 in
set_option maxRecDepth 100000 in
theorem ac_24 {X : zX} {l : Launch} {D : va_G} {g : zG} {A : Nat → Prop} {w0 : va_W} {b0 : Nat} {a : Nat → Nat} {C : zMS} {f : Nat → Int32} {nn : Nat} (Hb : acB X l D g A w0) (hV : KV C) (ha0 : a 0 = b0) (hf0 : f 0 = nI (cM C)) (hf1 : f 1 = nI (cK C)) (j : Nat) (hj : j < 2 ^ 31) (k n : Nat) (hk : k + 6 ≤ 6) (hn : n + 419 ≤ 419) : zJ X 9 (zI1 D A (zs X)) (acQ X D g A w0 b0 f nn (acF C j)) ([(nn, .inl (g.1, 3, .inl f))] ++ wC g a C (4 * cM C)) k n [(0, .ref (a 0)), (1, .ref (nn)), (2, .int (nI (j))), (3, .int (nI (j / 32))), (4, .int (nI (acI (cP C) (j / 32))))] 24 [] := by
  obtain ⟨hAe, hl, B, hr, hLF, hst⟩ := id Hb
  have hI := KV_I hV
  have hJ := KV_J hV
  have bP := CI_b19 hI
  have bM := CI_b20 hI
  have bK := CI_b22 hI
  have bT := CI_b0 hI
  refine z_aload_n B 1 dL_act_24 rfl rfl ?_
  refine z_iconst (v := nI 0) B dL_act_25 (by decide) ?_
  refine z_iald (g := f) (i := 0) B 0 0 rfl rfl (by omega) (by decide) dL_act_26 ?_
  refine z_top (y := nI (cM C)) hf0 ?_
  refine z_ifN_ne B 34 dL_act_27 (by decide) (by omega) (fun c27 => ?_) (fun c27 => ?_)
  · refine z_iload_n B 3 dL_act_34 rfl rfl ?_
    refine z_aload_n B 1 dL_act_35 rfl rfl ?_
    refine z_iconst (v := nI 0) B dL_act_36 (by decide) ?_
    refine z_iald (g := f) (i := 0) B 0 0 rfl rfl (by omega) (by decide) dL_act_37 ?_
    refine z_top (y := nI (cM C)) hf0 ?_
    refine z_iremN B (by omega) (by omega) (by omega) dL_act_38 ?_
    refine z_top (y := nI (acI (cM C) (j / 32))) (by rw [acI, if_neg (by omega)]) ?_
    refine z_istore (lv1 := [(5, .int (nI (acI (cM C) (j / 32)))), (0, .ref (a 0)), (1, .ref (nn)), (2, .int (nI (j))), (3, .int (nI (j / 32))), (4, .int (nI (acI (cP C) (j / 32))))]) B dL_act_39 (by decide) rfl ?_
    refine z_loc [1, 2, 3, 4, 5, 0] (lv' := [(0, .ref (a 0)), (1, .ref (nn)), (2, .int (nI (j))), (3, .int (nI (j / 32))), (4, .int (nI (acI (cP C) (j / 32)))), (5, .int (nI (acI (cM C) (j / 32))))]) rfl ?_
    exact ac_41 Hb hV ha0 hf0 hf1 j hj (k) (n) (by omega) (by omega)
  · refine z_iconst (v := nI 0) B dL_act_30 (by decide) ?_
    refine z_top (y := nI (acI (cM C) (j / 32))) (by rw [acI, if_pos c27]) ?_
    refine z_goto B 39 dL_act_31 (by decide) ?_
    refine z_istore (lv1 := [(5, .int (nI (acI (cM C) (j / 32)))), (0, .ref (a 0)), (1, .ref (nn)), (2, .int (nI (j))), (3, .int (nI (j / 32))), (4, .int (nI (acI (cP C) (j / 32))))]) B dL_act_39 (by decide) rfl ?_
    refine z_loc [1, 2, 3, 4, 5, 0] (lv' := [(0, .ref (a 0)), (1, .ref (nn)), (2, .int (nI (j))), (3, .int (nI (j / 32))), (4, .int (nI (acI (cP C) (j / 32)))), (5, .int (nI (acI (cM C) (j / 32))))]) rfl ?_
    exact ac_41 Hb hV ha0 hf0 hf1 j hj (k) (n) (by omega) (by omega)
set_option maxHeartbeats 4000000 in
set_option maxRecDepth 100000 in
theorem ac_0 {X : zX} {l : Launch} {D : va_G} {g : zG} {A : Nat → Prop} {w0 : va_W} {b0 : Nat} {a : Nat → Nat} {C : zMS} {f : Nat → Int32} {nn : Nat} (Hb : acB X l D g A w0) (hV : KV C) (ha0 : a 0 = b0) (hf0 : f 0 = nI (cM C)) (hf1 : f 1 = nI (cK C)) (j : Nat) (hj : j < 2 ^ 31) (k n : Nat) (hk : k + 6 ≤ 6) (hn : n + 419 ≤ 419) : zJ X 9 (zI1 D A (zs X)) (acQ X D g A w0 b0 f nn (acF C j)) ([(nn, .inl (g.1, 3, .inl f))] ++ wC g a C (4 * cM C)) k n [(0, .ref (a 0)), (1, .ref (nn)), (2, .int (nI (j)))] 0 [] := by
  obtain ⟨hAe, hl, B, hr, hLF, hst⟩ := id Hb
  have hI := KV_I hV
  have hJ := KV_J hV
  have bP := CI_b19 hI
  have bM := CI_b20 hI
  have bK := CI_b22 hI
  have bT := CI_b0 hI
  refine z_iload_n B 2 dL_act_0 rfl rfl ?_
  refine z_bipush (v := nI 32) B dL_act_1 (by decide) ?_
  refine z_idivN B (by omega) (by omega) (by omega) dL_act_3 ?_
  refine z_istore_n (lv1 := [(3, .int (nI (j / 32))), (0, .ref (a 0)), (1, .ref (nn)), (2, .int (nI (j)))]) B dL_act_4 rfl (by decide) rfl ?_
  refine z_aload_n B 1 dL_act_5 rfl rfl ?_
  refine z_callP (As := []) (st := []) (C := RX6) (T := TX6) (N := 6) (ci := 6) (l := l) B hl (cc_X6_pages l D g a C (4 * cM C) hI) gL_act_X6_pages rfl ⟨rfl, rfl⟩ nm_X6_pages ⟨by decide, by decide⟩ (fun _ h => sub_r h) 0 rfl rfl rfl (Nat.le_of_ble_eq_true rfl) dL_act_6 (show k ≤ 6 by omega) (show n ≤ 419 by omega) (fun r hr1 => ?_)
  obtain rfl := hr1
  refine z_ifN_ne B 16 dL_act_9 (by decide) (by omega) (fun c9 => ?_) (fun c9 => ?_)
  · refine z_iload_n B 0 dL_act_16 rfl rfl ?_
    refine z_aload_n B 1 dL_act_17 rfl rfl ?_
    refine z_callP (As := []) (st := [.int (nI (j / 32))]) (C := RX6) (T := TX6) (N := 6) (ci := 6) (l := l) B hl (cc_X6_pages l D g a C (4 * cM C) hI) gL_act_X6_pages rfl ⟨rfl, rfl⟩ nm_X6_pages ⟨by decide, by decide⟩ (fun _ h => sub_r h) 0 rfl rfl rfl (Nat.le_of_ble_eq_true rfl) dL_act_18 (show k ≤ 6 by omega) (show n ≤ 419 by omega) (fun r hr1 => ?_)
    obtain rfl := hr1
    refine z_iremN B (by omega) (by omega) (by omega) dL_act_21 ?_
    refine z_top (y := nI (acI (cP C) (j / 32))) (by rw [acI, if_neg (by omega)]) ?_
    refine z_istore (lv1 := [(4, .int (nI (acI (cP C) (j / 32)))), (3, .int (nI (j / 32))), (0, .ref (a 0)), (1, .ref (nn)), (2, .int (nI (j)))]) B dL_act_22 (by decide) rfl ?_
    refine z_loc [2, 3, 4, 1, 0] (lv' := [(0, .ref (a 0)), (1, .ref (nn)), (2, .int (nI (j))), (3, .int (nI (j / 32))), (4, .int (nI (acI (cP C) (j / 32))))]) rfl ?_
    exact ac_24 Hb hV ha0 hf0 hf1 j hj (k) (n) (by omega) (by omega)
  · refine z_iconst (v := nI 0) B dL_act_12 (by decide) ?_
    refine z_top (y := nI (acI (cP C) (j / 32))) (by rw [acI, if_pos c9]) ?_
    refine z_goto B 22 dL_act_13 (by decide) ?_
    refine z_istore (lv1 := [(4, .int (nI (acI (cP C) (j / 32)))), (3, .int (nI (j / 32))), (0, .ref (a 0)), (1, .ref (nn)), (2, .int (nI (j)))]) B dL_act_22 (by decide) rfl ?_
    refine z_loc [2, 3, 4, 1, 0] (lv' := [(0, .ref (a 0)), (1, .ref (nn)), (2, .int (nI (j))), (3, .int (nI (j / 32))), (4, .int (nI (acI (cP C) (j / 32))))]) rfl ?_
    exact ac_24 Hb hV ha0 hf0 hf1 j hj (k) (n) (by omega) (by omega)
theorem c_act (l : Launch) (D : va_G) (g : zG) (a : Nat → Nat) (C : zMS) (f : Nat → Int32) (nn j : Nat) (hst : l.stackTraces = false) (hV : KV C) (hf0 : f 0 = nI (cM C)) (hf1 : f 1 = nI (cK C)) (hj : j < 2 ^ 31) : zWrp l yL_act wsL_act { frames := 9, cells := 6, slots := 419, locals := 183 } D (zT g) ([(nn, .inl (g.1, 3, .inl f))] ++ wC g a C (4 * cM C)) [.ref (a 0), .ref nn, .int (nI j)] (acPost g (a 0) f nn (acF C j)) 6 419 := by
  refine zLwI_of (cc := cL_act) (maxL := 9) (ret := some .int) (own := RL) [(0, .ref (a 0)), (1, .ref nn), (2, .int (nI j))] (by decide) rfl rfl rfl (Nat.le_of_ble_eq_true rfl) ?_
  intro X A hAe hl B hr hLF
  have Hb : acB X l D g A ([(nn, .inl (g.1, 3, .inl f))] ++ wC g a C (4 * cM C)) := ⟨hAe, hl, B, hr, hLF, hst⟩
  exact ac_0 Hb hV rfl hf0 hf1 j hj 0 0 (by omega) (by omega)
