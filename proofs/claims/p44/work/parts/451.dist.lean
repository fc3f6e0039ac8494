/-! the addresses of a book are apart -/
section ZLR
variable {X : zX} {own : String} {cc : ByteArray} {nL : Nat} {Ts : List Cond} {rm : Room} {D : va_G} {tys : List (ClassId × FieldType)} {A : Nat → Prop} {Q : State → Prop} {w : va_W} {k n : Nat} {lv : List (Nat × Value)} {pc : Nat} {st : List Value}
/-- the addresses of the class's world are apart -/
theorem wC_fst (g : zG) (a : Nat → Nat) (C : zMS) (m : Nat) {i : Nat} (hi : i < 30 + m) : ∃ e, (wC g a C m)[i]? = some (a i, e) := by
  by_cases h : i < 30
  · have e1 : (wFx g a C).map Prod.fst = (List.range 30).map a := rfl
    have e2 : ((wFx g a C).map Prod.fst)[i]? = some (a i) := by rw [e1, List.getElem?_map, List.getElem?_range h]; rfl
    rw [List.getElem?_map] at e2
    unfold wC
    rw [List.getElem?_append_left (by rw [wFx_len]; exact h)]
    cases hq : (wFx g a C)[i]? with
    | none => rw [hq] at e2; cases e2
    | some q => rw [hq] at e2; exact ⟨q.2, by rw [show q = (q.1, q.2) from rfl, show q.1 = a i from Option.some.inj e2]⟩
  · obtain ⟨j, rfl⟩ : ∃ j, i = 30 + j := ⟨i - 30, by omega⟩
    exact ⟨_, wC_at (by omega)⟩
theorem z_dist {w1 : va_W} {x : Nat × va_E} {g : zG} {a : Nat → Nat} {C : zMS} {m : Nat} (kk : (∀ i j, i < 30 + m → j < 30 + m → a i = a j → i = j) → zJ X nL (zI1 D A (zs X)) Q (w1 ++ (x :: wC g a C m)) k n lv pc st) : zJ X nL (zI1 D A (zs X)) Q (w1 ++ (x :: wC g a C m)) k n lv pc st := by
  rintro H locs ls ⟨hP, hD, hS, hA⟩ hL
  refine kk (fun i j hi hj e => ?_) H locs ls ⟨hP, hD, hS, hA⟩ hL
  obtain ⟨e1, h1⟩ := wC_fst g a C m hi
  obtain ⟨e2, h2⟩ := wC_fst g a C m hj
  have l1 : (w1 ++ (x :: wC g a C m))[w1.length + (1 + i)]? = some (a i, e1) := by rw [List.getElem?_append_right (by omega), Nat.add_sub_cancel_left, Nat.add_comm 1 i, List.getElem?_cons_succ]; exact h1
  have l2 : (w1 ++ (x :: wC g a C m))[w1.length + (1 + j)]? = some (a j, e2) := by rw [List.getElem?_append_right (by omega), Nat.add_sub_cancel_left, Nat.add_comm 1 j, List.getElem?_cons_succ]; exact h2
  have := hD.1 _ _ _ _ l1 l2 e
  omega
end ZLR
