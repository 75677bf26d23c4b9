/-! the reference: a step -/
section R9
variable {G : GG} {b : Nat × Nat} {Q : Option VV → Hp → Prop} {g σ : Hp}
theorem L_dlv {n m : Int} (hI : IV σ n m) (hm : m ≤ 99990) (hC : Ce σ n) (hk : Q (some (vI (σ 117 0))) (mg g (F_dlv σ))) :
    (¬ σ 94 (σ 117 0) = 1 → Q (some (vI (σ 117 0))) (mg g σ)) ∧
    (σ 94 (σ 117 0) = 1 → ¬ σ 117 1 = 0 → Runs G mm_X10_answered [vR 89, vI (σ 117 0), vI (σ 117 2), vI (σ 117 1)] (mg g σ) (fun r h' => AW G mm_X10_step b 325 [(3, vI (σ 117 0))] (r.toList ++ []) h' Q)) ∧
    (σ 94 (σ 117 0) = 1 → σ 117 1 = 0 → Runs G mm_X10_requested [vR 89, vI (σ 117 0), vI (σ 117 2), vI (σ 117 3)] (mg g σ) (fun r h' => AW G mm_X10_step b 305 [(3, vI (σ 117 0))] (r.toList ++ []) h' Q)) := by
  have hN := hI.n
  obtain ⟨c0, c1, c2, c3, c8, c9⟩ := hC
  unfold F_dlv at hk
  refine ⟨fun q => ?_, fun q q1 => ?_, fun q q1 => ?_⟩
  · rw [if_neg q] at hk
    exact hk
  · rw [if_pos q, if_neg q1] at hk
    exact R_ans hI hm c0.1 (by omega) (sg_X10_step_325 hk)
  · rw [if_pos q, if_pos q1] at hk
    exact R_req hI hm (c3 q1).2 c0.1 (by omega) c2.1 (by omega) (sg_X10_step_305 hk)
set_option maxHeartbeats 8000000 in
theorem L_dup {n m : Int} (hI : IV σ n m) (hm : m ≤ 99980) (hC : Ce σ n) (hs : σ 89 21 ≤ 23) (hk : Q (some (vI (σ 117 0))) (mg g (F_dlv (F_dup σ)))) : ∀ (j : Nat) (i : Int), 0 ≤ i → i + j = 11 → AW G mm_X10_step b 158 [(0, vR 89), (3, vI i)] [] (mg g (cpx σ 109 (11 * σ 89 21) 117 0 i)) Q := by
  have hN := hI.n
  obtain ⟨hq1, hq2, hq3, hq4, hq5, -, -⟩ := hI.q
  have hC2 := hC
  obtain ⟨c0, c1, c2, c3, c8, c9⟩ := hC2
  have hd := hI.d (σ 117 0 / 2) (by omega) (by omega)
  intro j
  induction j with
  | zero =>
    intro i i0 hi
    have hi2 : i = 11 := by omega
    subst hi2
    have hU := iv_dup hI hC (by omega) hs
    have d17 : F_dup σ 117 = σ 117 := dup_off (by decide) (by decide)
    have d94 : F_dup σ 94 = σ 94 := dup_off (by decide) (by decide)
    obtain ⟨pA, pB, pC⟩ := L_dlv (G := G) (b := b) (Q := Q) (g := g) hU (by omega) (Ce_c d17 hC) (by rw [d17]; exact hk)
    rw [d17, d94] at pA pB pC
    unfold F_dup F_dp0 at pA pB pC
    have hT := st_cpx (a := 109) (dst := 11 * σ 89 21) (b := 117) (src := 0) (n := 11) hI.s (by decide) (by decide) (by omega)
    have f89 : ∀ k, cpx σ 109 (11 * σ 89 21) 117 0 11 89 k = σ 89 k := fun k => cpx_off (by decide)
    have f17 : ∀ k, cpx σ 109 (11 * σ 89 21) 117 0 11 117 k = σ 117 k := fun k => cpx_off (by decide)
    have f18 : ∀ k, cpx σ 109 (11 * σ 89 21) 117 0 11 108 k = σ 108 k := fun k => cpx_off (by decide)
    have f94 : ∀ k, cpx σ 109 (11 * σ 89 21) 117 0 11 94 k = σ 94 k := fun k => cpx_off (by decide)
    refine sg_X10_step_158 ?_
    simp (disch := omega) only [mg_in, mg_wr, wr_a, hT, forall_eq, true_and, inI, Int.add_zero]
    simp only [f89, f17, f18, f94]
    (repeat' (refine And.intro ?_ ?_)) <;> intros <;> (repeat' (refine And.intro ?_ ?_)) <;> intros <;> (repeat' (refine And.intro ?_ ?_)) <;> intros <;> (repeat' (refine And.intro ?_ ?_)) <;> intros <;> (repeat' (refine And.intro ?_ ?_)) <;> intros <;> (repeat' (refine And.intro ?_ ?_)) <;> intros <;> (repeat' (refine And.intro ?_ ?_)) <;> intros <;> (repeat' (refine And.intro ?_ ?_)) <;> intros
    all_goals first
      | omega
      | exact pA (by assumption)
      | exact pB (by assumption) (by assumption)
      | exact pC (by assumption) (by assumption)
  | succ j ih =>
    intro i i0 hi
    have hT := st_cpx (a := 109) (dst := 11 * σ 89 21) (b := 117) (src := 0) (n := i) hI.s (by decide) (by decide) (by omega)
    have f89 : ∀ k, cpx σ 109 (11 * σ 89 21) 117 0 i 89 k = σ 89 k := fun k => cpx_off (by decide)
    have ihk := ih (i + 1) (by omega) (by omega)
    rw [← cpx_s i0 (Or.inl (by decide)), Int.zero_add] at ihk
    refine sg_X10_step_158 ?_
    simp (disch := omega) only [mg_in, mg_wr, wr_a, hT, forall_eq, true_and, inI, Int.add_zero]
    simp only [f89]
    (repeat' (refine And.intro ?_ ?_)) <;> intros <;> (repeat' (refine And.intro ?_ ?_)) <;> intros <;> (repeat' (refine And.intro ?_ ?_)) <;> intros <;> (repeat' (refine And.intro ?_ ?_)) <;> intros <;> (repeat' (refine And.intro ?_ ?_)) <;> intros <;> (repeat' (refine And.intro ?_ ?_)) <;> intros <;> (repeat' (refine And.intro ?_ ?_)) <;> intros <;> (repeat' (refine And.intro ?_ ?_)) <;> intros
    all_goals first | omega | exact ihk
set_option maxHeartbeats 8000000 in
theorem L_st2 {way n m : Int} (hI : IV σ n m) (hn : n ≤ 511) (hm : m ≤ 99970) (hC : Ce σ n) (hs : σ 89 21 ≤ 23) (hw : 0 ≤ way ∧ way ≤ 2) (hk : Q (some (vI (σ 117 0))) (mg g (F_st2 way σ))) : AW G mm_X10_step b 75 [(0, vR 89), (1, vI way), (3, vI (σ 89 21))] [] (mg g σ) Q := by
  have hN := hI.n
  have hT := hI.s
  obtain ⟨hq1, hq2, hq3, hq4, hq5, -, -⟩ := hI.q
  have hC2 := hC
  obtain ⟨c0, c1, c2, c3, c8, c9⟩ := hC2
  unfold F_st2 at hk
  by_cases w1 : way = 1
  · rw [if_pos w1] at hk
    refine sg_X10_step_75 ?_
    simp (disch := omega) only [mg_in, mg_wr, wr_a, hT, forall_eq, true_and, inI, Int.add_zero]
    (repeat' (refine And.intro ?_ ?_)) <;> intros <;> (repeat' (refine And.intro ?_ ?_)) <;> intros <;> (repeat' (refine And.intro ?_ ?_)) <;> intros <;> (repeat' (refine And.intro ?_ ?_)) <;> intros <;> (repeat' (refine And.intro ?_ ?_)) <;> intros <;> (repeat' (refine And.intro ?_ ?_)) <;> intros <;> (repeat' (refine And.intro ?_ ?_)) <;> intros <;> (repeat' (refine And.intro ?_ ?_)) <;> intros
    all_goals first | omega | exact hk
  · rw [if_neg w1] at hk
    have hW := iv_nw hI hC hn
    have n17 : F_nw σ 117 = σ 117 := now_off (by decide)
    have n94 : F_nw σ 94 = σ 94 := now_off (by decide)
    have hC3 : Ce (F_nw σ) (n + 1) := Ce_c n17 ⟨c0, c1, by omega, c3, c8, by omega⟩
    by_cases w2 : way = 2
    · rw [if_pos w2] at hk
      have hL := L_dup (G := G) (b := b) (Q := Q) (g := g) hW (by omega) hC3 (by rw [now_89 (by decide)]; exact hs) (by rw [n17]; exact hk) 11 0 (Int.le_refl 0) rfl
      rw [cpx_0] at hL
      unfold F_nw at hL
      refine sg_X10_step_75 ?_
      by_cases hv : σ 117 9 ≤ σ 89 19
      · rw [if_pos hv] at hL
        simp (disch := omega) only [mg_in, mg_wr, wr_a, hT, forall_eq, true_and, inI, Int.add_zero]
        (repeat' (refine And.intro ?_ ?_)) <;> intros <;> (repeat' (refine And.intro ?_ ?_)) <;> intros <;> (repeat' (refine And.intro ?_ ?_)) <;> intros <;> (repeat' (refine And.intro ?_ ?_)) <;> intros <;> (repeat' (refine And.intro ?_ ?_)) <;> intros <;> (repeat' (refine And.intro ?_ ?_)) <;> intros <;> (repeat' (refine And.intro ?_ ?_)) <;> intros <;> (repeat' (refine And.intro ?_ ?_)) <;> intros
        all_goals first | omega | exact hL
      · rw [if_neg hv] at hL
        simp (disch := omega) only [mg_in, mg_wr, wr_a, hT, forall_eq, true_and, inI, Int.add_zero]
        (repeat' (refine And.intro ?_ ?_)) <;> intros <;> (repeat' (refine And.intro ?_ ?_)) <;> intros <;> (repeat' (refine And.intro ?_ ?_)) <;> intros <;> (repeat' (refine And.intro ?_ ?_)) <;> intros <;> (repeat' (refine And.intro ?_ ?_)) <;> intros <;> (repeat' (refine And.intro ?_ ?_)) <;> intros <;> (repeat' (refine And.intro ?_ ?_)) <;> intros <;> (repeat' (refine And.intro ?_ ?_)) <;> intros
        all_goals first | omega | exact hL
    · rw [if_neg w2] at hk
      obtain ⟨pA, pB, pC⟩ := L_dlv (G := G) (b := b) (Q := Q) (g := g) hW (by omega) hC3 (by rw [n17]; exact hk)
      rw [n17, n94] at pA pB pC
      unfold F_nw at pA pB pC
      refine sg_X10_step_75 ?_
      by_cases hv : σ 117 9 ≤ σ 89 19
      · rw [if_pos hv] at pA pB pC
        simp (disch := omega) only [mg_in, mg_wr, wr_a, hT, forall_eq, true_and, inI, Int.add_zero]
        (repeat' (refine And.intro ?_ ?_)) <;> intros <;> (repeat' (refine And.intro ?_ ?_)) <;> intros <;> (repeat' (refine And.intro ?_ ?_)) <;> intros <;> (repeat' (refine And.intro ?_ ?_)) <;> intros <;> (repeat' (refine And.intro ?_ ?_)) <;> intros <;> (repeat' (refine And.intro ?_ ?_)) <;> intros <;> (repeat' (refine And.intro ?_ ?_)) <;> intros <;> (repeat' (refine And.intro ?_ ?_)) <;> intros
        all_goals first
          | omega
          | exact pA (by assumption)
          | exact pB (by assumption) (by assumption)
          | exact pC (by assumption) (by assumption)
      · rw [if_neg hv] at pA pB pC
        simp (disch := omega) only [mg_in, mg_wr, wr_a, hT, forall_eq, true_and, inI, Int.add_zero]
        (repeat' (refine And.intro ?_ ?_)) <;> intros <;> (repeat' (refine And.intro ?_ ?_)) <;> intros <;> (repeat' (refine And.intro ?_ ?_)) <;> intros <;> (repeat' (refine And.intro ?_ ?_)) <;> intros <;> (repeat' (refine And.intro ?_ ?_)) <;> intros <;> (repeat' (refine And.intro ?_ ?_)) <;> intros <;> (repeat' (refine And.intro ?_ ?_)) <;> intros <;> (repeat' (refine And.intro ?_ ?_)) <;> intros
        all_goals first
          | omega
          | exact pA (by assumption)
          | exact pB (by assumption) (by assumption)
          | exact pC (by assumption) (by assumption)
set_option maxHeartbeats 8000000 in
theorem L_shift {f way : Int} {τ : Hp} (hS : ST τ) (f0 : 0 ≤ f) (f1 : f ≤ τ 89 21) (f2 : τ 89 21 ≤ 23) (hk : AW G mm_X10_step b 75 [(0, vR 89), (1, vI way), (3, vI (τ 89 21))] [] (mg g (cpx τ 109 (11 * f) 109 (11 * f + 11) (11 * (τ 89 21 - f)))) Q) : ∀ (j : Nat) (i : Int), f ≤ i → i + j = τ 89 21 → AW G mm_X10_step b 75 [(0, vR 89), (1, vI way), (3, vI i)] [] (mg g (cpx τ 109 (11 * f) 109 (11 * f + 11) (11 * (i - f)))) Q := by
  intro j
  induction j with
  | zero =>
    intro i i0 hi
    have hi2 : i = τ 89 21 := by omega
    subst hi2
    exact hk
  | succ j ih =>
    intro i i0 hi
    have hT := st_cpx (a := 109) (dst := 11 * f) (b := 109) (src := 11 * f + 11) (n := 11 * (i - f)) hS (by decide) (by decide) (by omega)
    have f89 : ∀ k, cpx τ 109 (11 * f) 109 (11 * f + 11) (11 * (i - f)) 89 k = τ 89 k := fun k => cpx_off (by decide)
    have ihk := ih (i + 1) (by omega) (by omega)
    rw [show 11 * (i + 1 - f) = 11 * (i - f) + 11 by omega, ← cpx_add (by omega) (by decide) (by omega), show 11 * f + 11 * (i - f) = 11 * i by omega, show 11 * f + 11 + 11 * (i - f) = 11 * (i + 1) by omega] at ihk
    have hR : Runs G mm_X10_copyPacket [vR 89, vI (i + 1), vI i] (mg g (cpx τ 109 (11 * f) 109 (11 * f + 11) (11 * (i - f)))) (fun r h' => AW G mm_X10_step b 91 [(0, vR 89), (1, vI way), (3, vI i)] (r.toList ++ []) h' Q) := by
      refine R_cpy hT (by omega) (by omega) (by omega) ?_
      refine sg_X10_step_91 ?_
      first
        | exact ihk
        | exact ⟨⟨by omega, by omega⟩, ihk⟩
    refine sg_X10_step_75 ?_
    simp (disch := omega) only [mg_in, mg_wr, wr_a, hT, forall_eq, true_and, inI, Int.add_zero]
    simp only [f89]
    (repeat' (refine And.intro ?_ ?_)) <;> intros <;> (repeat' (refine And.intro ?_ ?_)) <;> intros <;> (repeat' (refine And.intro ?_ ?_)) <;> intros <;> (repeat' (refine And.intro ?_ ?_)) <;> intros <;> (repeat' (refine And.intro ?_ ?_)) <;> intros <;> (repeat' (refine And.intro ?_ ?_)) <;> intros <;> (repeat' (refine And.intro ?_ ?_)) <;> intros <;> (repeat' (refine And.intro ?_ ?_)) <;> intros
    all_goals first | omega | exact hR
set_option maxHeartbeats 8000000 in
theorem L_take {f way : Int} (hS : ST σ) (f0 : 0 ≤ f) (f1 : f < σ 89 21) (f2 : σ 89 21 ≤ 24) (hk : AW G mm_X10_step b 75 [(0, vR 89), (1, vI way), (3, vI (F_tk f σ 89 21))] [] (mg g (F_tk f σ)) Q) : ∀ (j : Nat) (i : Int), 0 ≤ i → i + j = 11 → AW G mm_X10_step b 34 [(0, vR 89), (1, vI way), (2, vI f), (3, vI i)] [] (mg g (cpx σ 117 0 109 (11 * f) i)) Q := by
  intro j
  induction j with
  | zero =>
    intro i i0 hi
    have hi2 : i = 11 := by omega
    subst hi2
    have hT := st_cpx (a := 117) (dst := 0) (b := 109) (src := 11 * f) (n := 11) hS (by decide) (by decide) (by omega)
    have f89 : ∀ k, cpx σ 117 0 109 (11 * f) 11 89 k = σ 89 k := fun k => cpx_off (by decide)
    rw [tk_21] at hk
    unfold F_tk at hk
    have w21 : wr (cpx σ 117 0 109 (11 * f) 11) 89 21 (σ 89 21 - 1) 89 21 = σ 89 21 - 1 := wr_e
    have hL := L_shift (G := G) (b := b) (Q := Q) (g := g) (way := way) (f := f) (τ := wr (cpx σ 117 0 109 (11 * f) 11) 89 21 (σ 89 21 - 1)) (st_wrS hT (by decide)) f0 (by rw [w21]; omega) (by rw [w21]; omega) (by rw [w21]; exact hk) (σ 89 21 - 1 - f).toNat f (Int.le_refl f) (by rw [w21]; omega)
    rw [show 11 * (f - f) = 0 by omega, cpx_0] at hL
    refine sg_X10_step_34 ?_
    simp (disch := omega) only [mg_in, mg_wr, wr_a, hT, forall_eq, true_and, inI, Int.add_zero]
    simp only [f89]
    (repeat' (refine And.intro ?_ ?_)) <;> intros <;> (repeat' (refine And.intro ?_ ?_)) <;> intros <;> (repeat' (refine And.intro ?_ ?_)) <;> intros <;> (repeat' (refine And.intro ?_ ?_)) <;> intros <;> (repeat' (refine And.intro ?_ ?_)) <;> intros <;> (repeat' (refine And.intro ?_ ?_)) <;> intros <;> (repeat' (refine And.intro ?_ ?_)) <;> intros <;> (repeat' (refine And.intro ?_ ?_)) <;> intros
    all_goals first | omega | exact hL
  | succ j ih =>
    intro i i0 hi
    have hT := st_cpx (a := 117) (dst := 0) (b := 109) (src := 11 * f) (n := i) hS (by decide) (by decide) (by omega)
    have ihk := ih (i + 1) (by omega) (by omega)
    rw [← cpx_s i0 (Or.inl (by decide)), Int.zero_add] at ihk
    refine sg_X10_step_34 ?_
    simp (disch := omega) only [mg_in, mg_wr, wr_a, hT, forall_eq, true_and, inI, Int.add_zero]
    (repeat' (refine And.intro ?_ ?_)) <;> intros <;> (repeat' (refine And.intro ?_ ?_)) <;> intros <;> (repeat' (refine And.intro ?_ ?_)) <;> intros <;> (repeat' (refine And.intro ?_ ?_)) <;> intros <;> (repeat' (refine And.intro ?_ ?_)) <;> intros <;> (repeat' (refine And.intro ?_ ?_)) <;> intros <;> (repeat' (refine And.intro ?_ ?_)) <;> intros <;> (repeat' (refine And.intro ?_ ?_)) <;> intros
    all_goals first | omega | exact ihk
set_option maxHeartbeats 8000000 in
theorem R_step {way n m : Int} (hI : IV σ n m) (hn : n ≤ 511) (hm : m ≤ 99900) (hk : Q (some (vI (A_step way σ))) (mg g (F_step way σ))) : Runs G mm_X10_step [vR 89, vI way] (mg g σ) Q := by
  have hT := hI.s
  obtain ⟨hq1, hq2, hq3, hq4, hq5, -, -⟩ := hI.q
  unfold A_step F_step at hk
  by_cases hw : 0 ≤ way ∧ way ≤ 2
  · rw [if_neg (not_not_intro hw), if_neg (not_not_intro hw)] at hk
    by_cases hz : σ 89 21 = 0
    · rw [if_pos hz, if_pos hz] at hk
      refine rn_X10_step ?_
      simp (disch := omega) only [mg_in, mg_wr, wr_a, hT, forall_eq, true_and, inI, Int.add_zero]
      (repeat' (refine And.intro ?_ ?_)) <;> intros <;> (repeat' (refine And.intro ?_ ?_)) <;> intros <;> (repeat' (refine And.intro ?_ ?_)) <;> intros <;> (repeat' (refine And.intro ?_ ?_)) <;> intros <;> (repeat' (refine And.intro ?_ ?_)) <;> intros <;> (repeat' (refine And.intro ?_ ?_)) <;> intros <;> (repeat' (refine And.intro ?_ ?_)) <;> intros <;> (repeat' (refine And.intro ?_ ?_)) <;> intros
      all_goals first | omega | exact hk
    · rw [if_neg hz, if_neg hz] at hk
      have hf := fpi_in (σ := σ) (by omega)
      obtain ⟨hA, hC⟩ := iv_tk hI hf.1 hf.2
      have hR : Runs G mm_X10_firstPacket [vR 89] (mg g σ) (fun r h' => AW G mm_X10_step (0, 0) 31 [(0, vR 89), (1, vI way)] (r.toList ++ []) h' Q) := by
        refine R_fst hI (by omega) ?_
        refine sg_X10_step_31 ?_
        have hL := L_take (G := G) (b := (0, 0)) (Q := Q) (g := g) (way := way) hT hf.1 hf.2 (by omega) (L_st2 hA hn (by omega) hC (by rw [tk_21]; omega) hw (by rw [tk_117 (by decide) (by decide), Int.add_zero]; exact hk)) 11 0 (Int.le_refl 0) rfl
        rw [cpx_0] at hL
        exact hL
      refine rn_X10_step ?_
      simp (disch := omega) only [mg_in, mg_wr, wr_a, hT, forall_eq, true_and, inI, Int.add_zero]
      (repeat' (refine And.intro ?_ ?_)) <;> intros <;> (repeat' (refine And.intro ?_ ?_)) <;> intros <;> (repeat' (refine And.intro ?_ ?_)) <;> intros <;> (repeat' (refine And.intro ?_ ?_)) <;> intros <;> (repeat' (refine And.intro ?_ ?_)) <;> intros <;> (repeat' (refine And.intro ?_ ?_)) <;> intros <;> (repeat' (refine And.intro ?_ ?_)) <;> intros <;> (repeat' (refine And.intro ?_ ?_)) <;> intros
      all_goals first | omega | exact hR
  · rw [if_pos hw, if_pos hw] at hk
    refine rn_X10_step ?_
    simp (disch := omega) only [mg_in, mg_wr, wr_a, hT, forall_eq, true_and, inI, Int.add_zero]
    (repeat' (refine And.intro ?_ ?_)) <;> intros <;> (repeat' (refine And.intro ?_ ?_)) <;> intros <;> (repeat' (refine And.intro ?_ ?_)) <;> intros <;> (repeat' (refine And.intro ?_ ?_)) <;> intros <;> (repeat' (refine And.intro ?_ ?_)) <;> intros <;> (repeat' (refine And.intro ?_ ?_)) <;> intros <;> (repeat' (refine And.intro ?_ ?_)) <;> intros <;> (repeat' (refine And.intro ?_ ?_)) <;> intros
    all_goals first | omega | exact hk
end R9
