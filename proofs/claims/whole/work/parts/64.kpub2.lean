/-! the class: its methods, one by one -/
abbrev PQ (ρ : Hp) (n : Int) (Q : Option VV → Hp → Prop) (M : Int × Hp) : Prop := ∀ ρ' g, (∀ a, 89 ≤ a → a ≤ 117 → ρ' a = ρ a) → CR ρ' (n + 1) M.2 g → Q (some (vI M.1)) g
section KA
variable {G : GG} {b : Nat × Nat} {Q : Option VV → Hp → Prop} {ρ σ h : Hp} {n : Int}
theorem PQ.k {M : Int × Hp} {g : Hp} (hk : PQ ρ n Q M) (hg : CR ρ n M.2 g) : Q (some (vI M.1)) g := hk ρ g (fun _ _ _ => rfl) (hg.up (by omega))
theorem PQ.s {M : Int × Hp} {g : Hp} (hk : PQ ρ n Q M) (hg : CR ρ (n + 1) M.2 g) : Q (some (vI M.1)) g := hk ρ g (fun _ _ _ => rfl) hg
set_option maxHeartbeats 4000000 in
theorem K_erase {m m' : Int} (hC : CR ρ n σ h) (hI : IV σ m m') (hk : PQ ρ n Q (M_erase σ)) : Runs G mm_X9_erase [vR 1] h Q := by
  have hT := hC.T
  have hE := hC.e
  have hN := hI.n
  have hx1 := hC.x.1
  refine rn_X9_erase ?_
  simp (disch := omega) only [hT, hE, true_and, forall_eq, inI, hx1]
  (repeat' (refine And.intro ?_ ?_)) <;> intros <;> (repeat' (refine And.intro ?_ ?_)) <;> intros <;> (repeat' (refine And.intro ?_ ?_)) <;> intros <;> (repeat' (refine And.intro ?_ ?_)) <;> intros <;> (repeat' (refine And.intro ?_ ?_)) <;> intros <;> (repeat' (refine And.intro ?_ ?_)) <;> intros <;> (repeat' (refine And.intro ?_ ?_)) <;> intros
  all_goals first
    | omega
    | (simp (disch := omega) only [M_erase, if_pos, if_neg] at hk; exact PQ.k hk hC)
    | (unfold M_erase at hk; exact PQ.k hk (cr_len0 hC))
set_option maxHeartbeats 4000000 in
theorem K_cell {j c m m' : Int} (hC : CR ρ n σ h) (hI : IV σ m m') (hk : PQ ρ n Q (M_cell j c σ)) : Runs G mm_X9_cell [vR 1, vI j, vI c] h Q := by
  have hT := hC.T
  have hE := hC.e
  have hN := hI.n
  have hc := hC.c
  refine rn_X9_cell ?_
  by_cases hv : (0 ≤ j ∧ j ≤ 1) ∧ 0 ≤ c ∧ c ≤ 11
  · simp (disch := omega) only [hT, hE, true_and, forall_eq, inI, hc]
    (repeat' (refine And.intro ?_ ?_)) <;> intros <;> (repeat' (refine And.intro ?_ ?_)) <;> intros <;> (repeat' (refine And.intro ?_ ?_)) <;> intros <;> (repeat' (refine And.intro ?_ ?_)) <;> intros <;> (repeat' (refine And.intro ?_ ?_)) <;> intros <;> (repeat' (refine And.intro ?_ ?_)) <;> intros <;> (repeat' (refine And.intro ?_ ?_)) <;> intros
    all_goals first
      | omega
      | (simp (disch := omega) only [M_cell, if_pos, if_neg] at hk; exact PQ.k hk hC)
  · (repeat' (refine And.intro ?_ ?_)) <;> intros <;> (repeat' (refine And.intro ?_ ?_)) <;> intros <;> (repeat' (refine And.intro ?_ ?_)) <;> intros <;> (repeat' (refine And.intro ?_ ?_)) <;> intros <;> (repeat' (refine And.intro ?_ ?_)) <;> intros <;> (repeat' (refine And.intro ?_ ?_)) <;> intros <;> (repeat' (refine And.intro ?_ ?_)) <;> intros
    all_goals first
      | omega
      | (simp (disch := omega) only [M_cell, if_pos, if_neg] at hk; exact PQ.k hk hC)
set_option maxHeartbeats 4000000 in
theorem K_put {j c v m m' : Int} (hC : CR ρ n σ h) (hI : IV σ m m') (hk : PQ ρ n Q (M_put j c v σ)) : Runs G mm_X9_put [vR 1, vI j, vI c, vI v] h Q := by
  have hT := hC.T
  have hE := hC.e
  have hN := hI.n
  have hc := hC.c
  refine rn_X9_put ?_
  by_cases hv : (0 ≤ j ∧ j ≤ 1) ∧ (0 ≤ c ∧ c ≤ 11) ∧ 0 ≤ v ∧ v ≤ 9999
  · simp (disch := omega) only [hT, hE, true_and, forall_eq, inI, hc]
    (repeat' (refine And.intro ?_ ?_)) <;> intros <;> (repeat' (refine And.intro ?_ ?_)) <;> intros <;> (repeat' (refine And.intro ?_ ?_)) <;> intros <;> (repeat' (refine And.intro ?_ ?_)) <;> intros <;> (repeat' (refine And.intro ?_ ?_)) <;> intros <;> (repeat' (refine And.intro ?_ ?_)) <;> intros <;> (repeat' (refine And.intro ?_ ?_)) <;> intros
    all_goals first
      | omega
      | (simp (disch := omega) only [M_put, if_pos, if_neg] at hk; exact PQ.k hk hC)
      | (simp (disch := omega) only [M_put, if_pos, if_neg] at hk; exact PQ.k hk (cr_cell hC (by omega) (by omega) (by omega) (by omega)))
  · (repeat' (refine And.intro ?_ ?_)) <;> intros <;> (repeat' (refine And.intro ?_ ?_)) <;> intros <;> (repeat' (refine And.intro ?_ ?_)) <;> intros <;> (repeat' (refine And.intro ?_ ?_)) <;> intros <;> (repeat' (refine And.intro ?_ ?_)) <;> intros <;> (repeat' (refine And.intro ?_ ?_)) <;> intros <;> (repeat' (refine And.intro ?_ ?_)) <;> intros
    all_goals first
      | omega
      | (simp (disch := omega) only [M_put, if_pos, if_neg] at hk; exact PQ.k hk hC)
set_option maxHeartbeats 4000000 in
theorem K_delay {l d m m' : Int} (hC : CR ρ n σ h) (hI : IV σ m m') (hk : PQ ρ n Q (M_delay l d σ)) : Runs G mm_X9_delay [vR 1, vI l, vI d] h Q := by
  have hT := hC.T
  have hE := hC.e
  have hN := hI.n
  obtain ⟨b1, b2, b3, -⟩ := hC.p
  refine rn_X9_delay ?_
  by_cases hv : (0 ≤ l ∧ l ≤ 1) ∧ 1 ≤ d ∧ d ≤ 9
  · simp (disch := omega) only [hT, hE, true_and, forall_eq, inI, b3]
    (repeat' (refine And.intro ?_ ?_)) <;> intros <;> (repeat' (refine And.intro ?_ ?_)) <;> intros <;> (repeat' (refine And.intro ?_ ?_)) <;> intros <;> (repeat' (refine And.intro ?_ ?_)) <;> intros <;> (repeat' (refine And.intro ?_ ?_)) <;> intros <;> (repeat' (refine And.intro ?_ ?_)) <;> intros <;> (repeat' (refine And.intro ?_ ?_)) <;> intros
    all_goals first
      | omega
      | (simp (disch := omega) only [M_delay, if_pos, if_neg] at hk; exact PQ.k hk hC)
      | (simp (disch := omega) only [M_delay, if_pos, if_neg] at hk; exact PQ.k hk (cr_delay hC (by omega) (by omega)))
  · (repeat' (refine And.intro ?_ ?_)) <;> intros <;> (repeat' (refine And.intro ?_ ?_)) <;> intros <;> (repeat' (refine And.intro ?_ ?_)) <;> intros <;> (repeat' (refine And.intro ?_ ?_)) <;> intros <;> (repeat' (refine And.intro ?_ ?_)) <;> intros <;> (repeat' (refine And.intro ?_ ?_)) <;> intros <;> (repeat' (refine And.intro ?_ ?_)) <;> intros
    all_goals first
      | omega
      | (simp (disch := omega) only [M_delay, if_pos, if_neg] at hk; exact PQ.k hk hC)
set_option maxHeartbeats 4000000 in
theorem K_aim {e k o m m' : Int} (hC : CR ρ n σ h) (hI : IV σ m m') (hk : PQ ρ n Q (M_aim e k o σ)) : Runs G mm_X9_aim [vR 1, vI e, vI k, vI o] h Q := by
  have hT := hC.T
  have hE := hC.e
  have hN := hI.n
  refine rn_X9_aim ?_
  by_cases hv : (0 ≤ e ∧ e ≤ 3) ∧ (0 ≤ k ∧ k ≤ 3) ∧ 0 ≤ o ∧ o ≤ 11
  · simp (disch := omega) only [hT, hE, true_and, forall_eq, inI]
    (repeat' (refine And.intro ?_ ?_)) <;> intros <;> (repeat' (refine And.intro ?_ ?_)) <;> intros <;> (repeat' (refine And.intro ?_ ?_)) <;> intros <;> (repeat' (refine And.intro ?_ ?_)) <;> intros <;> (repeat' (refine And.intro ?_ ?_)) <;> intros <;> (repeat' (refine And.intro ?_ ?_)) <;> intros <;> (repeat' (refine And.intro ?_ ?_)) <;> intros
    all_goals first
      | omega
      | (simp (disch := omega) only [M_aim, if_pos, if_neg] at hk; exact PQ.k hk hC)
      | (refine rn_X1_setAim ?_
         simp (disch := omega) only [hT, true_and, forall_eq]
         refine sg_X9_aim_76 ⟨fun z => ?_, fun z => ?_⟩
         · first | omega | (simp (disch := omega) only [M_aim, if_pos, if_neg] at hk; exact PQ.k hk (cr_sc (cr_sc hC (by omega) (by omega) (by omega)) (by omega) (by omega) (by omega)))
         · first | omega | (simp (disch := omega) only [M_aim, if_pos, if_neg] at hk; exact PQ.k hk (cr_sc (cr_sc hC (by omega) (by omega) (by omega)) (by omega) (by omega) (by omega))))
  · (repeat' (refine And.intro ?_ ?_)) <;> intros <;> (repeat' (refine And.intro ?_ ?_)) <;> intros <;> (repeat' (refine And.intro ?_ ?_)) <;> intros <;> (repeat' (refine And.intro ?_ ?_)) <;> intros <;> (repeat' (refine And.intro ?_ ?_)) <;> intros <;> (repeat' (refine And.intro ?_ ?_)) <;> intros <;> (repeat' (refine And.intro ?_ ?_)) <;> intros
    all_goals first
      | omega
      | (simp (disch := omega) only [M_aim, if_pos, if_neg] at hk; exact PQ.k hk hC)
set_option maxHeartbeats 4000000 in
theorem K_receive {e c m m' : Int} (hC : CR ρ n σ h) (hI : IV σ m m') (hk : PQ ρ n Q (M_receive e c σ)) : Runs G mm_X9_receive [vR 1, vI e, vI c] h Q := by
  have hT := hC.T
  have hE := hC.e
  have hN := hI.n
  refine rn_X9_receive ?_
  by_cases hv : (0 ≤ e ∧ e ≤ 3) ∧ 0 ≤ c ∧ c ≤ 11
  · simp (disch := omega) only [hT, hE, true_and, forall_eq, inI]
    (repeat' (refine And.intro ?_ ?_)) <;> intros <;> (repeat' (refine And.intro ?_ ?_)) <;> intros <;> (repeat' (refine And.intro ?_ ?_)) <;> intros <;> (repeat' (refine And.intro ?_ ?_)) <;> intros <;> (repeat' (refine And.intro ?_ ?_)) <;> intros <;> (repeat' (refine And.intro ?_ ?_)) <;> intros <;> (repeat' (refine And.intro ?_ ?_)) <;> intros
    all_goals first
      | omega
      | (simp (disch := omega) only [M_receive, if_pos, if_neg] at hk; exact PQ.k hk hC)
      | (refine rn_X1_postReceive ?_
         simp (disch := omega) only [hT, hE, true_and, forall_eq, inI]
         have hz := hr_of hI e (by omega) (by omega)
         (repeat' (refine And.intro ?_ ?_)) <;> intros <;> (repeat' (refine And.intro ?_ ?_)) <;> intros <;> (repeat' (refine And.intro ?_ ?_)) <;> intros <;> (repeat' (refine And.intro ?_ ?_)) <;> intros <;> (repeat' (refine And.intro ?_ ?_)) <;> intros <;> (repeat' (refine And.intro ?_ ?_)) <;> intros <;> (repeat' (refine And.intro ?_ ?_)) <;> intros
         all_goals first
           | omega
           | (simp (disch := omega) only [M_receive, if_pos, if_neg] at hk; exact sg_X9_receive_28 (PQ.k hk hC))
           | (simp (disch := omega) only [M_receive, if_pos, if_neg] at hk; exact sg_X9_receive_28 (PQ.s hk (cr_rcv hC (by omega) (by omega) (by omega) (by omega) (hr_of hI)))))
  · (repeat' (refine And.intro ?_ ?_)) <;> intros <;> (repeat' (refine And.intro ?_ ?_)) <;> intros <;> (repeat' (refine And.intro ?_ ?_)) <;> intros <;> (repeat' (refine And.intro ?_ ?_)) <;> intros <;> (repeat' (refine And.intro ?_ ?_)) <;> intros <;> (repeat' (refine And.intro ?_ ?_)) <;> intros <;> (repeat' (refine And.intro ?_ ?_)) <;> intros
    all_goals first
      | omega
      | (simp (disch := omega) only [M_receive, if_pos, if_neg] at hk; exact PQ.k hk hC)
set_option maxHeartbeats 4000000 in
theorem K_send {e v m m' : Int} (hC : CR ρ n σ h) (hI : IV σ m m') (hmn : m ≤ 511) (hk : PQ ρ n Q (M_send e v σ)) : Runs G mm_X9_send [vR 1, vI e, vI v] h Q := by
  have hT := hC.T
  have hE := hC.e
  have hN := hI.n
  refine rn_X9_send ?_
  by_cases hv : (0 ≤ e ∧ e ≤ 3) ∧ (0 ≤ v ∧ v ≤ 9999)
  · simp (disch := omega) only [hT, hE, true_and, forall_eq, inI]
    (repeat' (refine And.intro ?_ ?_)) <;> intros <;> (repeat' (refine And.intro ?_ ?_)) <;> intros <;> (repeat' (refine And.intro ?_ ?_)) <;> intros <;> (repeat' (refine And.intro ?_ ?_)) <;> intros <;> (repeat' (refine And.intro ?_ ?_)) <;> intros <;> (repeat' (refine And.intro ?_ ?_)) <;> intros <;> (repeat' (refine And.intro ?_ ?_)) <;> intros
    all_goals first
      | omega
      | (simp (disch := omega) only [M_send, if_pos, if_neg] at hk; exact PQ.k hk hC)
      | (simp (disch := omega) only [M_send, if_pos, if_neg] at hk; exact K_post hC hI hmn (by omega) (by omega) (by omega) (by omega) (by omega) (by omega) (by omega) (by omega) (by omega) (by omega) (fun g hg => sg_X9_send_37 (PQ.s hk hg)))
  · (repeat' (refine And.intro ?_ ?_)) <;> intros <;> (repeat' (refine And.intro ?_ ?_)) <;> intros <;> (repeat' (refine And.intro ?_ ?_)) <;> intros <;> (repeat' (refine And.intro ?_ ?_)) <;> intros <;> (repeat' (refine And.intro ?_ ?_)) <;> intros <;> (repeat' (refine And.intro ?_ ?_)) <;> intros <;> (repeat' (refine And.intro ?_ ?_)) <;> intros
    all_goals first
      | omega
      | (simp (disch := omega) only [M_send, if_pos, if_neg] at hk; exact PQ.k hk hC)
set_option maxHeartbeats 4000000 in
theorem K_store {e v m m' : Int} (hC : CR ρ n σ h) (hI : IV σ m m') (hmn : m ≤ 511) (hk : PQ ρ n Q (M_store e v σ)) : Runs G mm_X9_store [vR 1, vI e, vI v] h Q := by
  have hT := hC.T
  have hE := hC.e
  have hN := hI.n
  refine rn_X9_store ?_
  by_cases hv : (0 ≤ e ∧ e ≤ 3) ∧ (0 ≤ v ∧ v ≤ 9999)
  · simp (disch := omega) only [hT, hE, true_and, forall_eq, inI]
    (repeat' (refine And.intro ?_ ?_)) <;> intros <;> (repeat' (refine And.intro ?_ ?_)) <;> intros <;> (repeat' (refine And.intro ?_ ?_)) <;> intros <;> (repeat' (refine And.intro ?_ ?_)) <;> intros <;> (repeat' (refine And.intro ?_ ?_)) <;> intros <;> (repeat' (refine And.intro ?_ ?_)) <;> intros <;> (repeat' (refine And.intro ?_ ?_)) <;> intros
    all_goals first
      | omega
      | (simp (disch := omega) only [M_store, if_pos, if_neg] at hk; exact PQ.k hk hC)
      | (simp (disch := omega) only [M_store, if_pos, if_neg] at hk; exact K_post hC hI hmn (by omega) (by omega) (by omega) (by omega) (by omega) (by omega) (by omega) (by omega) (by omega) (by omega) (fun g hg => sg_X9_store_37 (PQ.s hk hg)))
  · (repeat' (refine And.intro ?_ ?_)) <;> intros <;> (repeat' (refine And.intro ?_ ?_)) <;> intros <;> (repeat' (refine And.intro ?_ ?_)) <;> intros <;> (repeat' (refine And.intro ?_ ?_)) <;> intros <;> (repeat' (refine And.intro ?_ ?_)) <;> intros <;> (repeat' (refine And.intro ?_ ?_)) <;> intros <;> (repeat' (refine And.intro ?_ ?_)) <;> intros
    all_goals first
      | omega
      | (simp (disch := omega) only [M_store, if_pos, if_neg] at hk; exact PQ.k hk hC)
set_option maxHeartbeats 4000000 in
theorem K_read {e c m m' : Int} (hC : CR ρ n σ h) (hI : IV σ m m') (hmn : m ≤ 511) (hk : PQ ρ n Q (M_read e c σ)) : Runs G mm_X9_read [vR 1, vI e, vI c] h Q := by
  have hT := hC.T
  have hE := hC.e
  have hN := hI.n
  refine rn_X9_read ?_
  by_cases hv : (0 ≤ e ∧ e ≤ 3) ∧ (0 ≤ c ∧ c ≤ 11)
  · simp (disch := omega) only [hT, hE, true_and, forall_eq, inI]
    (repeat' (refine And.intro ?_ ?_)) <;> intros <;> (repeat' (refine And.intro ?_ ?_)) <;> intros <;> (repeat' (refine And.intro ?_ ?_)) <;> intros <;> (repeat' (refine And.intro ?_ ?_)) <;> intros <;> (repeat' (refine And.intro ?_ ?_)) <;> intros <;> (repeat' (refine And.intro ?_ ?_)) <;> intros <;> (repeat' (refine And.intro ?_ ?_)) <;> intros
    all_goals first
      | omega
      | (simp (disch := omega) only [M_read, if_pos, if_neg] at hk; exact PQ.k hk hC)
      | (simp (disch := omega) only [M_read, if_pos, if_neg] at hk; exact K_post hC hI hmn (by omega) (by omega) (by omega) (by omega) (by omega) (by omega) (by omega) (by omega) (by omega) (by omega) (fun g hg => sg_X9_read_31 (PQ.s hk hg)))
  · (repeat' (refine And.intro ?_ ?_)) <;> intros <;> (repeat' (refine And.intro ?_ ?_)) <;> intros <;> (repeat' (refine And.intro ?_ ?_)) <;> intros <;> (repeat' (refine And.intro ?_ ?_)) <;> intros <;> (repeat' (refine And.intro ?_ ?_)) <;> intros <;> (repeat' (refine And.intro ?_ ?_)) <;> intros <;> (repeat' (refine And.intro ?_ ?_)) <;> intros
    all_goals first
      | omega
      | (simp (disch := omega) only [M_read, if_pos, if_neg] at hk; exact PQ.k hk hC)
set_option maxHeartbeats 4000000 in
theorem K_add {e v c m m' : Int} (hC : CR ρ n σ h) (hI : IV σ m m') (hmn : m ≤ 511) (hk : PQ ρ n Q (M_add e v c σ)) : Runs G mm_X9_add [vR 1, vI e, vI v, vI c] h Q := by
  have hT := hC.T
  have hE := hC.e
  have hN := hI.n
  refine rn_X9_add ?_
  by_cases hv : (0 ≤ e ∧ e ≤ 3) ∧ (0 ≤ v ∧ v ≤ 9999) ∧ (0 ≤ c ∧ c ≤ 11)
  · simp (disch := omega) only [hT, hE, true_and, forall_eq, inI]
    (repeat' (refine And.intro ?_ ?_)) <;> intros <;> (repeat' (refine And.intro ?_ ?_)) <;> intros <;> (repeat' (refine And.intro ?_ ?_)) <;> intros <;> (repeat' (refine And.intro ?_ ?_)) <;> intros <;> (repeat' (refine And.intro ?_ ?_)) <;> intros <;> (repeat' (refine And.intro ?_ ?_)) <;> intros <;> (repeat' (refine And.intro ?_ ?_)) <;> intros
    all_goals first
      | omega
      | (simp (disch := omega) only [M_add, if_pos, if_neg] at hk; exact PQ.k hk hC)
      | (simp (disch := omega) only [M_add, if_pos, if_neg] at hk; exact K_post hC hI hmn (by omega) (by omega) (by omega) (by omega) (by omega) (by omega) (by omega) (by omega) (by omega) (by omega) (fun g hg => sg_X9_add_44 (PQ.s hk hg)))
  · (repeat' (refine And.intro ?_ ?_)) <;> intros <;> (repeat' (refine And.intro ?_ ?_)) <;> intros <;> (repeat' (refine And.intro ?_ ?_)) <;> intros <;> (repeat' (refine And.intro ?_ ?_)) <;> intros <;> (repeat' (refine And.intro ?_ ?_)) <;> intros <;> (repeat' (refine And.intro ?_ ?_)) <;> intros <;> (repeat' (refine And.intro ?_ ?_)) <;> intros
    all_goals first
      | omega
      | (simp (disch := omega) only [M_add, if_pos, if_neg] at hk; exact PQ.k hk hC)
set_option maxHeartbeats 4000000 in
theorem K_swap {e v w c m m' : Int} (hC : CR ρ n σ h) (hI : IV σ m m') (hmn : m ≤ 511) (hk : PQ ρ n Q (M_swap e v w c σ)) : Runs G mm_X9_swap [vR 1, vI e, vI v, vI w, vI c] h Q := by
  have hT := hC.T
  have hE := hC.e
  have hN := hI.n
  refine rn_X9_swap ?_
  by_cases hv : (0 ≤ e ∧ e ≤ 3) ∧ (0 ≤ v ∧ v ≤ 9999) ∧ (0 ≤ w ∧ w ≤ 9999) ∧ (0 ≤ c ∧ c ≤ 11)
  · simp (disch := omega) only [hT, hE, true_and, forall_eq, inI]
    (repeat' (refine And.intro ?_ ?_)) <;> intros <;> (repeat' (refine And.intro ?_ ?_)) <;> intros <;> (repeat' (refine And.intro ?_ ?_)) <;> intros <;> (repeat' (refine And.intro ?_ ?_)) <;> intros <;> (repeat' (refine And.intro ?_ ?_)) <;> intros <;> (repeat' (refine And.intro ?_ ?_)) <;> intros <;> (repeat' (refine And.intro ?_ ?_)) <;> intros
    all_goals first
      | omega
      | (simp (disch := omega) only [M_swap, if_pos, if_neg] at hk; exact PQ.k hk hC)
      | (simp (disch := omega) only [M_swap, if_pos, if_neg] at hk; exact K_post hC hI hmn (by omega) (by omega) (by omega) (by omega) (by omega) (by omega) (by omega) (by omega) (by omega) (by omega) (fun g hg => sg_X9_swap_53 (PQ.s hk hg)))
  · (repeat' (refine And.intro ?_ ?_)) <;> intros <;> (repeat' (refine And.intro ?_ ?_)) <;> intros <;> (repeat' (refine And.intro ?_ ?_)) <;> intros <;> (repeat' (refine And.intro ?_ ?_)) <;> intros <;> (repeat' (refine And.intro ?_ ?_)) <;> intros <;> (repeat' (refine And.intro ?_ ?_)) <;> intros <;> (repeat' (refine And.intro ?_ ?_)) <;> intros
    all_goals first
      | omega
      | (simp (disch := omega) only [M_swap, if_pos, if_neg] at hk; exact PQ.k hk hC)
set_option maxHeartbeats 4000000 in
theorem K_tear {e m m' : Int} (hC : CR ρ n σ h) (hI : IV σ m m') (hn : n ≤ 990) (hk : PQ ρ n Q (M_tear e σ)) : Runs G mm_X9_tear [vR 1, vI e] h Q := by
  have hT := hC.T
  have hE := hC.e
  refine rn_X9_tear ⟨fun q => ?_, fun q => ?_⟩
  · have hJ := hI.e e (by omega) (by omega)
    simp (disch := omega) only [hT, hE, true_and, inI]
    refine ⟨by omega, by omega, fun q2 => ⟨by omega, by decide, by decide, ?_⟩, fun q2 => ?_⟩
    · simp (disch := omega) only [M_tear, if_pos, if_neg] at hk
      exact K_brk hC hI (by omega) (by omega) hn (fun g hg => sg_X9_tear_44 (PQ.k hk hg))
    · simp (disch := omega) only [M_tear, if_pos, if_neg] at hk
      exact PQ.k hk hC
  · simp (disch := omega) only [M_tear, if_pos, if_neg] at hk
    exact PQ.k hk hC
set_option maxHeartbeats 4000000 in
theorem K_end {e w m m' : Int} (hC : CR ρ n σ h) (hI : IV σ m m') (hk : PQ ρ n Q (M_end e w σ)) : Runs G mm_X9_end [vR 1, vI e, vI w] h Q := by
  have hT := hC.T
  have hE := hC.e
  have hN := hI.n
  refine rn_X9_end ?_
  by_cases hv : 0 ≤ e ∧ e ≤ 3
  · simp (disch := omega) only [hT, hE, true_and, forall_eq, inI]
    (repeat' (refine And.intro ?_ ?_)) <;> intros <;> (repeat' (refine And.intro ?_ ?_)) <;> intros <;> (repeat' (refine And.intro ?_ ?_)) <;> intros <;> (repeat' (refine And.intro ?_ ?_)) <;> intros <;> (repeat' (refine And.intro ?_ ?_)) <;> intros <;> (repeat' (refine And.intro ?_ ?_)) <;> intros <;> (repeat' (refine And.intro ?_ ?_)) <;> intros
    all_goals first
      | omega
      | (simp (disch := omega) only [M_end, if_pos, if_neg] at hk; exact PQ.k hk hC)
  · (repeat' (refine And.intro ?_ ?_)) <;> intros <;> (repeat' (refine And.intro ?_ ?_)) <;> intros <;> (repeat' (refine And.intro ?_ ?_)) <;> intros <;> (repeat' (refine And.intro ?_ ?_)) <;> intros <;> (repeat' (refine And.intro ?_ ?_)) <;> intros <;> (repeat' (refine And.intro ?_ ?_)) <;> intros <;> (repeat' (refine And.intro ?_ ?_)) <;> intros
    all_goals first
      | omega
      | (simp (disch := omega) only [M_end, if_pos, if_neg] at hk; exact PQ.k hk hC)
set_option maxHeartbeats 4000000 in
theorem K_open {e i w m m' : Int} (hC : CR ρ n σ h) (hI : IV σ m m') (hk : PQ ρ n Q (M_open e i w σ)) : Runs G mm_X9_open [vR 1, vI e, vI i, vI w] h Q := by
  have hT := hC.T
  have hE := hC.e
  have hN := hI.n
  have hw := hC.w e
  refine rn_X9_open ?_
  by_cases hv : 0 ≤ e ∧ e ≤ 3
  · simp (disch := omega) only [hT, hE, true_and, forall_eq, inI]
    (repeat' (refine And.intro ?_ ?_)) <;> intros <;> (repeat' (refine And.intro ?_ ?_)) <;> intros <;> (repeat' (refine And.intro ?_ ?_)) <;> intros <;> (repeat' (refine And.intro ?_ ?_)) <;> intros <;> (repeat' (refine And.intro ?_ ?_)) <;> intros <;> (repeat' (refine And.intro ?_ ?_)) <;> intros <;> (repeat' (refine And.intro ?_ ?_)) <;> intros
    all_goals first
      | omega
      | (simp (disch := omega) only [M_open, if_pos, if_neg] at hk; exact PQ.k hk hC)
      | (exact hT.2.2.2.2.2.2.2.2.2.2 _ (by have := (hC.w e (by omega) (by omega)).2.1 i (by omega) (by omega); omega) (by have := (hC.w e (by omega) (by omega)).2.1 i (by omega) (by omega); omega) (by have := (hC.w e (by omega) (by omega)).2.1 i (by omega) (by omega); omega))
      | (subst_vars
         have w4 := (hC.w e (by omega) (by omega)).2.2.2 i 0 (by omega) (by omega) (by decide) (by decide)
         rw [w4, show 28 * e + 7 * i + 0 = 7 * (4 * e + i) + 0 by omega]
         simp (disch := omega) only [M_open, if_pos, if_neg] at hk
         exact PQ.k hk hC)
      | (subst_vars
         have w4 := (hC.w e (by omega) (by omega)).2.2.2 i 1 (by omega) (by omega) (by decide) (by decide)
         rw [w4, show 28 * e + 7 * i + 1 = 7 * (4 * e + i) + 1 by omega]
         simp (disch := omega) only [M_open, if_pos, if_neg] at hk
         exact PQ.k hk hC)
      | (subst_vars
         have w4 := (hC.w e (by omega) (by omega)).2.2.2 i 2 (by omega) (by omega) (by decide) (by decide)
         rw [w4, show 28 * e + 7 * i + 2 = 7 * (4 * e + i) + 2 by omega]
         simp (disch := omega) only [M_open, if_pos, if_neg] at hk
         exact PQ.k hk hC)
      | (subst_vars
         have w4 := (hC.w e (by omega) (by omega)).2.2.2 i 3 (by omega) (by omega) (by decide) (by decide)
         rw [w4, show 28 * e + 7 * i + 3 = 7 * (4 * e + i) + 3 by omega]
         simp (disch := omega) only [M_open, if_pos, if_neg] at hk
         exact PQ.k hk hC)
      | (subst_vars
         have w4 := (hC.w e (by omega) (by omega)).2.2.2 i 4 (by omega) (by omega) (by decide) (by decide)
         rw [w4, show 28 * e + 7 * i + 4 = 7 * (4 * e + i) + 4 by omega]
         simp (disch := omega) only [M_open, if_pos, if_neg] at hk
         exact PQ.k hk hC)
  · (repeat' (refine And.intro ?_ ?_)) <;> intros <;> (repeat' (refine And.intro ?_ ?_)) <;> intros <;> (repeat' (refine And.intro ?_ ?_)) <;> intros <;> (repeat' (refine And.intro ?_ ?_)) <;> intros <;> (repeat' (refine And.intro ?_ ?_)) <;> intros <;> (repeat' (refine And.intro ?_ ?_)) <;> intros <;> (repeat' (refine And.intro ?_ ?_)) <;> intros
    all_goals first
      | omega
      | (simp (disch := omega) only [M_open, if_pos, if_neg] at hk; exact PQ.k hk hC)
set_option maxHeartbeats 4000000 in
theorem K_packet {w m m' : Int} (hC : CR ρ n σ h) (hI : IV σ m m') (hk : PQ ρ n Q (M_packet w σ)) : Runs G mm_X9_packet [vR 1, vI w] h Q := by
  have hT := hC.T
  have hE := hC.e
  have hN := hI.n
  refine rn_X9_packet ?_
  by_cases hv : 0 ≤ w ∧ w ≤ 4
  · simp (disch := omega) only [hT, hE, true_and, forall_eq, inI]
    (repeat' (refine And.intro ?_ ?_)) <;> intros <;> (repeat' (refine And.intro ?_ ?_)) <;> intros <;> (repeat' (refine And.intro ?_ ?_)) <;> intros <;> (repeat' (refine And.intro ?_ ?_)) <;> intros <;> (repeat' (refine And.intro ?_ ?_)) <;> intros <;> (repeat' (refine And.intro ?_ ?_)) <;> intros <;> (repeat' (refine And.intro ?_ ?_)) <;> intros
    all_goals first
      | omega
      | (simp (disch := omega) only [M_packet, if_pos, if_neg] at hk; exact PQ.k hk hC)
      | (refine K_first hC hI ?_
         by_cases hu : σ 89 21 = 0
         · rw [if_pos hu]
           refine sg_X9_packet_20 ⟨fun z => absurd rfl z, fun _ => ?_⟩
           simp (disch := omega) only [M_packet, if_pos, if_neg] at hk
           exact PQ.k hk hC
         · rw [if_neg hu]
           obtain ⟨b1, b2, b3, b4, b5, b6⟩ := hC.p
           have fi := fpi_in (σ := σ) (by omega)
           have pf := b4 (fpi σ) fi.1 (by omega)
           have ps := hT.2.2.2.2.2.2.2.2.2.1 _ pf.1 pf.2
           obtain ⟨P0, P1, P2, P3, P4, -⟩ := b6 (fpi σ) fi.1 fi.2
           refine sg_X9_packet_20 ⟨fun _ => ?_, fun z => by omega⟩
           simp (disch := omega) only [hT, true_and, ps, P0, P1, P2, P3, P4]
           (repeat' (refine And.intro ?_ ?_)) <;> intros <;> (repeat' (refine And.intro ?_ ?_)) <;> intros <;> (repeat' (refine And.intro ?_ ?_)) <;> intros <;> (repeat' (refine And.intro ?_ ?_)) <;> intros <;> (repeat' (refine And.intro ?_ ?_)) <;> intros <;> (repeat' (refine And.intro ?_ ?_)) <;> intros <;> (repeat' (refine And.intro ?_ ?_)) <;> intros
           all_goals first
             | omega
             | (simp (disch := omega) only [M_packet, if_pos, if_neg] at hk; exact PQ.k hk hC))
  · (repeat' (refine And.intro ?_ ?_)) <;> intros <;> (repeat' (refine And.intro ?_ ?_)) <;> intros <;> (repeat' (refine And.intro ?_ ?_)) <;> intros <;> (repeat' (refine And.intro ?_ ?_)) <;> intros <;> (repeat' (refine And.intro ?_ ?_)) <;> intros <;> (repeat' (refine And.intro ?_ ?_)) <;> intros <;> (repeat' (refine And.intro ?_ ?_)) <;> intros
    all_goals first
      | omega
      | (simp (disch := omega) only [M_packet, if_pos, if_neg] at hk; exact PQ.k hk hC)
set_option maxHeartbeats 4000000 in
theorem K_taken {w m m' : Int} (hC : CR ρ n σ h) (hI : IV σ m m') (hk : PQ ρ n Q (M_taken w σ)) : Runs G mm_X9_taken [vR 1, vI w] h Q := by
  have hT := hC.T
  obtain ⟨l1, l2⟩ := hC.l
  refine rn_X9_taken ⟨fun q => ⟨hT.1.1, fun q2 => ?_, fun q2 => ?_⟩, fun q => ?_⟩
  · have hz : ¬ σ 89 27 = 0 := fun z => q2 (l1 z)
    obtain ⟨p1, p2, p3, p4⟩ := l2 hz
    have a0 := p4 0 (by decide) (by decide)
    have a1 := p4 1 (by decide) (by decide)
    have a2 := p4 2 (by decide) (by decide)
    have a3 := p4 3 (by decide) (by decide)
    have a4 := p4 4 (by decide) (by decide)
    rw [p2, p3, a0, a1, a2, a3, a4]
    simp (disch := omega) only [M_taken, if_pos, if_neg] at hk
    have hk2 := PQ.k hk hC
    refine ⟨fun z => ?_, fun z => ⟨rfl, ?_⟩, fun z => ⟨rfl, ?_⟩, fun z => ⟨rfl, ?_⟩, fun z => ⟨rfl, ?_⟩, fun z => ⟨rfl, ?_⟩⟩
    · subst z; exact hk2
    · subst z; exact hk2
    · subst z; exact hk2
    · subst z; exact hk2
    · subst z; exact hk2
    · rw [show w = 5 by omega] at hk2; exact hk2
  · have hz : σ 89 27 = 0 := Decidable.byContradiction (fun z => by have := (l2 z).1; omega)
    simp (disch := omega) only [M_taken, if_pos, if_neg] at hk
    exact PQ.k hk hC
  · simp (disch := omega) only [M_taken, if_pos, if_neg] at hk
    exact PQ.k hk hC
end KA
