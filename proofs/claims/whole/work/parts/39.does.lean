/-! the reference: a clause done -/
def F_does (w : Int) (σ : Hp) : Hp := if w = 0 then F_all σ else if w = 1 then F_keys (4 * σ 115 0 + σ 115 1) (σ 115 2) (σ 115 3) (σ 115 4) σ else if w = 2 then wr σ 90 (12 * σ 115 0 + σ 115 1) (σ 115 2) else if w = 3 then wr σ 108 (σ 115 0) (σ 115 1) else if w = 4 then wr (wr σ 106 (σ 115 0) (σ 115 1)) 107 (σ 115 0) (σ 115 2) else F_joi (σ 115 0) σ
/-- the bounds of the numbers of a clause -/
def Nb (w : Int) (σ : Hp) : Prop := (w = 1 → (0 ≤ σ 115 0 ∧ σ 115 0 ≤ 1) ∧ (0 ≤ σ 115 1 ∧ σ 115 1 ≤ 3) ∧ (0 ≤ σ 115 2 ∧ σ 115 2 ≤ 11) ∧ (1 ≤ σ 115 3 ∧ σ 115 3 ≤ 12 - σ 115 2) ∧ (0 ≤ σ 115 4 ∧ σ 115 4 ≤ 7)) ∧ (w = 2 → (0 ≤ σ 115 0 ∧ σ 115 0 ≤ 1) ∧ (0 ≤ σ 115 1 ∧ σ 115 1 ≤ 11) ∧ (0 ≤ σ 115 2 ∧ σ 115 2 ≤ 9999)) ∧ (w = 3 → (0 ≤ σ 115 0 ∧ σ 115 0 ≤ 1) ∧ (1 ≤ σ 115 1 ∧ σ 115 1 ≤ 9)) ∧ (w = 4 → (0 ≤ σ 115 0 ∧ σ 115 0 ≤ 3) ∧ (0 ≤ σ 115 1 ∧ σ 115 1 ≤ 3) ∧ (0 ≤ σ 115 2 ∧ σ 115 2 ≤ 11)) ∧ (w = 5 → (0 ≤ σ 115 0 ∧ σ 115 0 ≤ 1))
section RH
variable {G : GG} {b : Nat × Nat} {Q : Option VV → Hp → Prop} {g σ : Hp}
set_option maxHeartbeats 4000000 in
theorem R_does {w n m : Int} (hI : IV σ n m) (w0 : 0 ≤ w) (w1 : w ≤ 5) (hN : Nb w σ) (hk : Q none (mg g (F_does w σ))) : Runs G mm_X10_does [vR 89, vI w] (mg g σ) Q := by
  have hT := hI.s
  obtain ⟨n1, n2, n3, n4, n5⟩ := hN
  unfold F_does at hk
  have r0 : w = 0 → Runs G mm_X10_allAnew [vR 89] (mg g σ) (fun r h' => AW G mm_X10_does (0, 0) 40 [] (r.toList ++ []) h' Q) := fun q => by
    rw [if_pos q] at hk
    exact R_all hT (sg_X10_does_40 hk)
  have r1 : w = 1 → Runs G mm_X10_keys [vR 89, vI (4 * σ 115 0 + σ 115 1), vI (σ 115 2), vI (σ 115 3), vI (σ 115 4)] (mg g σ) (fun r h' => AW G mm_X10_does (0, 0) 80 [] (r.toList ++ []) h' Q) := fun q => by
    rw [if_neg (by omega), if_pos q] at hk
    have := n1 q
    exact R_keys hT (by omega) (by omega) (sg_X10_does_80 hk)
  have r5 : w = 5 → Runs G mm_X10_joins [vR 89, vI (σ 115 0)] (mg g σ) (fun r h' => AW G mm_X10_does (0, 0) 180 [] (r.toList ++ []) h' Q) := fun q => by
    rw [if_neg (by omega), if_neg (by omega), if_neg (by omega), if_neg (by omega), if_neg (by omega)] at hk
    have := n5 q
    exact R_joins hI (by omega) (by omega) (sg_X10_does_180 hk)
  refine rn_X10_does ?_
  simp (disch := omega) only [mg_in, mg_wr, wr_a, hT, forall_eq, true_and, inI, Int.add_zero]
  (repeat' (refine And.intro ?_ ?_)) <;> intros <;> (repeat' (refine And.intro ?_ ?_)) <;> intros <;> (repeat' (refine And.intro ?_ ?_)) <;> intros <;> (repeat' (refine And.intro ?_ ?_)) <;> intros <;> (repeat' (refine And.intro ?_ ?_)) <;> intros <;> (repeat' (refine And.intro ?_ ?_)) <;> intros <;> (repeat' (refine And.intro ?_ ?_)) <;> intros <;> (repeat' (refine And.intro ?_ ?_)) <;> intros
  all_goals first
    | omega
    | exact r0 (by omega)
    | exact r1 (by omega)
    | exact r5 (by omega)
    | ((repeat (first | rw [if_pos (by omega)] at hk | rw [if_neg (by omega)] at hk)); exact hk)
end RH
