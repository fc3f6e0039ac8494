/-! what an act answers, and leaves behind -/
def acI (n u : Nat) : Nat := if n = 0 then 0 else u % n
theorem acI_lt {n u m : Nat} (h : n ≤ m) (h0 : 0 < m) : acI n u < m := by
  unfold acI
  by_cases q : n = 0
  · rw [if_pos q]; exact h0
  · rw [if_neg q]; exact Nat.lt_of_lt_of_le (Nat.mod_lt _ (by omega)) h
def acFr (C : zMS) (u : Nat) : Nat := if u / 64 % 2 = 0 then 0 else cT C
def acTo (C : zMS) (u : Nat) : Nat := if 400 - u / 128 % 390 < cT C then 400 else 400 - u / 128 % 390
noncomputable def acLg (C : zMS) (u am : Nat) : Int32 × zMS := if (o_legs C (nI (u % 8)) (nI am)).1 < 0 then o_legs C (nI (u % 8)) (nI am) else o_legs (o_legs C (nI (u % 8)) (nI am)).2 (nI ((u + 1 + u / 8 % 6) % 8)) (-(nI am))
noncomputable def acCa (C : zMS) (u c : Nat) : Int32 × zMS := if u / 16 % 2 = 0 then o_carries1 C (nI c) else o_carries0 C (nI c)
noncomputable def acTh (C : zMS) (u c : Nat) : Int32 × zMS := if u / 16 % 3 = 0 then o_throwsAway C (nI c) else (s_size C (nI c), C)
noncomputable def acCl (C : zMS) (u s : Nat) : Int32 × zMS := if u / 16 % 3 = 0 then o_closes C (nI s) else (s_isOpen C (nI s), C)
noncomputable def acG (C : zMS) (kd u p c s am : Nat) : Int32 × zMS :=
  if kd = 0 then o_legs C (nI (u % 8)) (nI am)
  else if kd < 5 then acLg C u am
  else if kd = 5 then (nI (cD C), up2 C 3 0 (nI 0))
  else if kd < 10 then o_writes C (nI (u % 10000))
  else if kd = 10 then o_reverses C (nI p)
  else if kd = 11 then o_burns C (nI p) (nI (p + u / 80 % 3))
  else if kd = 12 then o_alters C (nI p) (nI (u / 80 % 3)) (nI (u / 240 % 60) - nI 30)
  else if kd < 15 then o_passes C (nI (1 + u % 15))
  else if kd = 15 then o_copies C
  else if kd < 18 then o_copiesFrom C (nI c)
  else if kd = 18 then acCa C u c
  else if kd = 19 then o_rots C (nI c) (nI p)
  else if kd = 20 then acTh C u c
  else if kd < 23 then o_restores C (nI c)
  else if kd = 23 then o_opens C
  else if kd = 24 then acCl C u s
  else if kd < 27 then o_holds C (nI s) (nI (u / 8 % 8)) (nI (acFr C u)) (nI (acTo C u))
  else o_strikes C (nI s) (nI p)
noncomputable def acF (C : zMS) (j : Nat) : Int32 × zMS := acG C (j % 32) (j / 32) (acI (cP C) (j / 32)) (acI (cM C) (j / 32)) (acI (cK C) (j / 32)) (1 + j / 32 / 4 % 90)
theorem it_p {α : Type} {P : α → Prop} {c : Prop} [Decidable c] {x y : α} (h1 : c → P x) (h2 : ¬ c → P y) : P (if c then x else y) := by
  by_cases h : c
  · rw [if_pos h]; exact h1 h
  · rw [if_neg h]; exact h2 h
abbrev acKP : Int32 × zMS → Prop := fun q => KV q.2
theorem KVacG {C : zMS} (h : KV C) (kd u p c s am : Nat) : KV (acG C kd u p c s am).2 := by
  show acKP (acG C kd u p c s am)
  unfold acG
  refine it_p (P := acKP) (fun _ => KVo_legs _ _ h) (fun _ => ?_)
  refine it_p (P := acKP) (fun _ => (by unfold acLg; exact it_p (P := acKP) (fun _ => KVo_legs _ _ h) (fun _ => KVo_legs _ _ (KVo_legs _ _ h)))) (fun _ => ?_)
  refine it_p (P := acKP) (fun _ => K_wipe h) (fun _ => ?_)
  refine it_p (P := acKP) (fun _ => KVo_writes _ h) (fun _ => ?_)
  refine it_p (P := acKP) (fun _ => KVo_reverses _ h) (fun _ => ?_)
  refine it_p (P := acKP) (fun _ => KVo_burns _ _ h) (fun _ => ?_)
  refine it_p (P := acKP) (fun _ => KVo_alters _ _ _ h) (fun _ => ?_)
  refine it_p (P := acKP) (fun _ => KVo_passes _ h) (fun _ => ?_)
  refine it_p (P := acKP) (fun _ => KVo_copies h) (fun _ => ?_)
  refine it_p (P := acKP) (fun _ => KVo_copiesFrom _ h) (fun _ => ?_)
  refine it_p (P := acKP) (fun _ => (by unfold acCa; exact it_p (P := acKP) (fun _ => KVo_carries1 _ h) (fun _ => KVo_carries0 _ h))) (fun _ => ?_)
  refine it_p (P := acKP) (fun _ => KVo_rots _ _ h) (fun _ => ?_)
  refine it_p (P := acKP) (fun _ => (by unfold acTh; exact it_p (P := acKP) (fun _ => KVo_throwsAway _ h) (fun _ => h))) (fun _ => ?_)
  refine it_p (P := acKP) (fun _ => KVo_restores _ h) (fun _ => ?_)
  refine it_p (P := acKP) (fun _ => KVo_opens h) (fun _ => ?_)
  refine it_p (P := acKP) (fun _ => (by unfold acCl; exact it_p (P := acKP) (fun _ => KVo_closes _ h) (fun _ => h))) (fun _ => ?_)
  refine it_p (P := acKP) (fun _ => KVo_holds _ _ _ _ h) (fun _ => ?_)
  exact KVo_strikes _ _ h
theorem KVacF {C : zMS} (h : KV C) (j : Nat) : KV (acF C j).2 := KVacG h _ _ _ _ _ _
theorem M_same {C : zMS} {q : Int32 × zMS} (h : q.2 20 = C 20 ∧ q.2 22 = C 22) : cM q.2 = cM C ∧ cK q.2 = cK C := by
  unfold cM cK; rw [h.1, h.2]; exact ⟨rfl, rfl⟩
/-- how many copies and cases there are behind an act -/
def acMP (C : zMS) (kd : Nat) (q : Int32 × zMS) : Prop := (cM q.2 = cM C + (if (14 < kd ∧ kd < 18) ∧ 0 ≤ q.1 then 1 else 0)) ∧ (cK q.2 = cK C + (if kd = 23 ∧ 0 ≤ q.1 then 1 else 0))
theorem acM_s {C : zMS} {kd : Nat} {q : Int32 × zMS} (h : q.2 20 = C 20 ∧ q.2 22 = C 22) (h1 : ¬ (14 < kd ∧ kd < 18)) (h2 : ¬ kd = 23) : acMP C kd q := by
  unfold acMP
  rw [if_neg (fun z => h1 z.1), if_neg (fun z => h2 z.1)]; exact M_same h
theorem acM_c {C : zMS} {kd : Nat} {q : Int32 × zMS} (h : (0 ≤ q.1 ∧ cM q.2 = cM C + 1 ∧ q.2 22 = C 22) ∨ (q.1 < 0 ∧ q.2 = C)) (h1 : 14 < kd ∧ kd < 18) : acMP C kd q := by
  unfold acMP
  rw [if_neg (show ¬ (kd = 23 ∧ 0 ≤ q.1) from fun z => by omega)]
  rcases h with ⟨a, b, c⟩ | ⟨a, b⟩
  · rw [if_pos ⟨h1, a⟩]; exact ⟨b, by unfold cK; rw [c]; rfl⟩
  · rw [if_neg (fun z => absurd a (Int32.not_lt.mpr z.2)), b]; exact ⟨rfl, rfl⟩
theorem acM_o {C : zMS} {kd : Nat} {q : Int32 × zMS} (h : (0 ≤ q.1 ∧ cK q.2 = cK C + 1 ∧ q.2 20 = C 20) ∨ (q.1 < 0 ∧ q.2 = C)) (h1 : kd = 23) : acMP C kd q := by
  unfold acMP
  rw [if_neg (show ¬ ((14 < kd ∧ kd < 18) ∧ 0 ≤ q.1) from fun z => by omega)]
  rcases h with ⟨a, b, c⟩ | ⟨a, b⟩
  · rw [if_pos ⟨h1, a⟩]; exact ⟨by unfold cM; rw [c]; rfl, b⟩
  · rw [if_neg (fun z => absurd a (Int32.not_lt.mpr z.2)), b]; exact ⟨rfl, rfl⟩
theorem acG_M {C : zMS} (kd u p c s am : Nat) : acMP C kd (acG C kd u p c s am) := by
  unfold acG
  refine it_p (P := acMP C kd) (fun hx => acM_s (Mo_legs _ _) (by omega) (by omega)) (fun hx1 => ?_)
  refine it_p (P := acMP C kd) (fun hx => (by unfold acLg; exact it_p (P := acMP C kd) (fun _ => acM_s (Mo_legs _ _) (by omega) (by omega)) (fun _ => acM_s (⟨(Mo_legs _ _).1.trans (Mo_legs _ _).1, (Mo_legs _ _).2.trans (Mo_legs _ _).2⟩) (by omega) (by omega)))) (fun hx2 => ?_)
  refine it_p (P := acMP C kd) (fun hx => acM_s (⟨(up2_k (by decide) : up2 C 3 0 (nI 0) 20 = C 20), (up2_k (by decide) : up2 C 3 0 (nI 0) 22 = C 22)⟩) (by omega) (by omega)) (fun hx3 => ?_)
  refine it_p (P := acMP C kd) (fun hx => acM_s (Mo_writes _) (by omega) (by omega)) (fun hx4 => ?_)
  refine it_p (P := acMP C kd) (fun hx => acM_s (Mo_reverses _) (by omega) (by omega)) (fun hx5 => ?_)
  refine it_p (P := acMP C kd) (fun hx => acM_s (Mo_burns _ _) (by omega) (by omega)) (fun hx6 => ?_)
  refine it_p (P := acMP C kd) (fun hx => acM_s (Mo_alters _ _ _) (by omega) (by omega)) (fun hx7 => ?_)
  refine it_p (P := acMP C kd) (fun hx => acM_s (Mo_passes _) (by omega) (by omega)) (fun hx8 => ?_)
  refine it_p (P := acMP C kd) (fun hx => acM_c Mo_copies (by omega)) (fun hx9 => ?_)
  refine it_p (P := acMP C kd) (fun hx => acM_c (Mo_copiesFrom _) (by omega)) (fun hx10 => ?_)
  refine it_p (P := acMP C kd) (fun hx => (by unfold acCa; exact it_p (P := acMP C kd) (fun _ => acM_s (Mo_carries1 _) (by omega) (by omega)) (fun _ => acM_s (Mo_carries0 _) (by omega) (by omega)))) (fun hx11 => ?_)
  refine it_p (P := acMP C kd) (fun hx => acM_s (Mo_rots _ _) (by omega) (by omega)) (fun hx12 => ?_)
  refine it_p (P := acMP C kd) (fun hx => (by unfold acTh; exact it_p (P := acMP C kd) (fun _ => acM_s (Mo_throwsAway _) (by omega) (by omega)) (fun _ => acM_s (⟨rfl, rfl⟩) (by omega) (by omega)))) (fun hx13 => ?_)
  refine it_p (P := acMP C kd) (fun hx => acM_s (Mo_restores _) (by omega) (by omega)) (fun hx14 => ?_)
  refine it_p (P := acMP C kd) (fun hx => acM_o Mo_opens (by omega)) (fun hx15 => ?_)
  refine it_p (P := acMP C kd) (fun hx => (by unfold acCl; exact it_p (P := acMP C kd) (fun _ => acM_s (Mo_closes _) (by omega) (by omega)) (fun _ => acM_s (⟨rfl, rfl⟩) (by omega) (by omega)))) (fun hx16 => ?_)
  refine it_p (P := acMP C kd) (fun hx => acM_s (Mo_holds _ _ _ _) (by omega) (by omega)) (fun hx17 => ?_)
  exact acM_s (Mo_strikes _ _) (by omega) (by omega)
