/-! pure rows out of whole: one number of copies more, the chain of restores, where it begins -/
theorem mkC_M {C : zMS} {b : Int32} {f : Nat} (h : cM C < 16) : cM (mkC C b f) = cM C + 1 := by
  unfold mkC
  show nN (nI (cM C + 1)) = _
  rw [nN_nI (by omega)]
theorem gbA_k {f : Nat} (hf : f ≠ 17 ∧ f ≠ 18) : ∀ (L : List Nat) (C : zMS), gbA L C f = C f
  | [], _ => rfl
  | c :: L, C => by rw [gbA, gbA_k hf L, gbN_k C c hf]
theorem INV_z : INV zC0 zC0 := by
  have z0 : nN (nI 0) = 0 := nN_nI (by decide)
  have e : (zC0 5 0) = nI 0 := rfl
  refine ⟨?_, ?_, ⟨rfl, rfl, rfl, rfl, rfl, rfl, fun l hl => ⟨rfl, rfl⟩⟩, fun p hp => absurd hp (by rw [show mP zC0 = 0 from z0]; omega), fun p hp => absurd hp (by rw [show mP zC0 = 0 from z0]; omega), fun p _ _ => ⟨rfl, rfl, rfl, fun l _ => ⟨rfl, rfl⟩⟩, fun k hk => absurd hk (by rw [show mC zC0 = 0 from z0]; omega), ⟨fun c hc => absurd hc (by rw [show mK zC0 = 0 from z0]; omega), fun k hk => absurd hk (by rw [show mH zC0 = 0 from z0]; omega)⟩, ⟨fun p q _ hq => absurd hq (by rw [show mP zC0 = 0 from z0]; omega), fun p hp => absurd hp (by rw [show mP zC0 = 0 from z0]; omega), fun p hp => absurd hp (by rw [show mP zC0 = 0 from z0]; omega)⟩, ⟨fun k hk => absurd hk (by rw [show mC zC0 = 0 from z0]; omega), fun k hk => absurd hk (by rw [show mC zC0 = 0 from z0]; omega)⟩⟩
  · have s : ∀ n : Nat, nI 0 = nI (nN (nI 0)) ∧ nN (nI 0) ≤ n := fun n => ⟨by rw [z0], by rw [z0]; exact Nat.zero_le _⟩
    exact ⟨s 80, s 4, s 16, s 8, s 30, s 400, fun _ => s 4, fun _ => s 80, fun _ => s 80, fun _ => Or.inl rfl, fun _ => Or.inl rfl, fun _ => Or.inl rfl, fun _ => Or.inl rfl, fun _ => Or.inl rfl⟩
  · have s : ∀ n : Nat, nI 0 = nI (nN (nI 0)) ∧ nN (nI 0) ≤ n := fun n => ⟨by rw [z0], by rw [z0]; exact Nat.zero_le _⟩
    exact ⟨s 80, s 4, s 4, s 16, s 8, s 30, s 400, fun _ => s 4, fun _ => s 7, fun _ => s 80, fun _ => s 80, fun _ => Or.inl rfl, fun _ => Or.inl rfl, fun _ => Or.inl rfl, fun _ => Or.inl rfl, fun _ => Or.inl rfl, fun _ => Or.inl rfl, fun _ _ => Or.inl rfl, fun j hj => absurd hj (show ¬ (nI 0 : Int32) = 1 by decide)⟩
