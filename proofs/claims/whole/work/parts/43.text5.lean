/-! the rest of a clause: what holds behind it -/
theorem mc_st {n m : Int} : ∀ (l : List (Int × Int × (Hp → Int))) (σ : Hp), (∀ x, x ∈ l → 0 ≤ x.1) → IV σ n m → Tx σ → IV (M_c l σ).2 n m ∧ Tx (M_c l σ).2 ∧ ∀ j, j ≠ 32 → j ≠ 33 → (M_c l σ).2 89 j = σ 89 j
  | [], σ, _, hI, hX => ⟨hI, hX, fun _ _ _ => rfl⟩
  | x :: t, σ, hl, hI, hX => by
    have h0 := hl x (List.mem_cons_self ..)
    have a := rd_st (lo := x.2.1) (hi := x.2.2 σ) hI.s hX h0
    have c := iv_rd (lo := x.2.1) (hi := x.2.2 σ) hI h0
    unfold M_c
    split
    · exact ⟨c, a.2, fun j q1 q2 => rd_89 q1 q2⟩
    · obtain ⟨i1, i2, i3⟩ := mc_st t _ (fun y hy => hl y (List.mem_cons_of_mem _ hy)) c a.2
      exact ⟨i1, i2, fun j q1 q2 => by rw [i3 j q1 q2, rd_89 q1 q2]⟩
theorem mc_or : ∀ (l : List (Int × Int × (Hp → Int))) (σ : Hp), (M_c l σ).1 = 0 ∨ (M_c l σ).1 = 1
  | [], _ => Or.inr rfl
  | x :: t, σ => by
    unfold M_c
    split
    · exact Or.inl rfl
    · exact mc_or t _
