/-! the reference: all anew -/
def F_ae (e : Int) (σ : Hp) : Hp := wr (wr (F_anew e 0 σ) 106 e 0) 107 e 0
def F_aes : Nat → Int → Hp → Hp
  | 0, _, σ => σ
  | n + 1, e, σ => F_aes n (e + 1) (F_ae e σ)
def F_al (l : Int) (σ : Hp) : Hp := wr (wr (wr σ 108 l 1) 111 l 0) 112 l 0
def F_az (σ : Hp) : Hp := wr (wr (wr (wr (wr σ 89 19 0) 89 21 0) 89 27 0) 89 28 0) 89 29 0
def F_all (σ : Hp) : Hp := F_az (F_al 1 (F_al 0 (F_aes 4 0 (fl6 (fl6 σ 90 0 24 (fun _ => 0)) 92 0 8 (fun _ => 0)))))
theorem st_ae {e : Int} {σ : Hp} (hT : ST σ) (h0 : 0 ≤ e) : ST (F_ae e σ) := st_wr (st_wr (st_anew hT h0) (by decide) (by decide) h0) (by decide) (by decide) h0
theorem st_aes : ∀ (n : Nat) (e : Int) (σ : Hp), ST σ → 0 ≤ e → ST (F_aes n e σ)
  | 0, _, _, h, _ => h
  | n + 1, e, σ, h, h0 => st_aes n (e + 1) _ (st_ae h h0) (by omega)
theorem st_al {l : Int} {σ : Hp} (hT : ST σ) (h0 : 0 ≤ l) : ST (F_al l σ) := st_wr (st_wr (st_wr hT (by decide) (by decide) h0) (by decide) (by decide) h0) (by decide) (by decide) h0
theorem st_az {σ : Hp} (hT : ST σ) : ST (F_az σ) := st_wrS (st_wrS (st_wrS (st_wrS (st_wrS hT (by decide)) (by decide)) (by decide)) (by decide)) (by decide)
section RG
variable {G : GG} {b : Nat × Nat} {Q : Option VV → Hp → Prop} {g σ : Hp}
set_option maxHeartbeats 4000000 in
theorem L_al4 (hT : ST σ) (hk : Q none (mg g (F_az (F_al 1 (F_al 0 σ))))) : AW G mm_X10_allAnew b 77 [(0, vR 89), (1, vI 0)] [] (mg g σ) Q := by
  have h2 : AW G mm_X10_allAnew b 77 [(0, vR 89), (1, vI 2)] [] (mg g (F_al 1 (F_al 0 σ))) Q := by
    have hT := st_al (l := 1) (st_al (l := 0) hT (by decide)) (by decide)
    refine sg_X10_allAnew_77 ?_
    simp (disch := omega) only [mg_in, mg_wr, wr_a, hT, forall_eq, true_and, inI, Int.add_zero]
    (repeat' (refine And.intro ?_ ?_)) <;> intros <;> (repeat' (refine And.intro ?_ ?_)) <;> intros <;> (repeat' (refine And.intro ?_ ?_)) <;> intros <;> (repeat' (refine And.intro ?_ ?_)) <;> intros <;> (repeat' (refine And.intro ?_ ?_)) <;> intros <;> (repeat' (refine And.intro ?_ ?_)) <;> intros <;> (repeat' (refine And.intro ?_ ?_)) <;> intros <;> (repeat' (refine And.intro ?_ ?_)) <;> intros
    all_goals first | omega | exact hk
  have h1 : AW G mm_X10_allAnew b 77 [(0, vR 89), (1, vI 1)] [] (mg g (F_al 0 σ)) Q := by
    have hT := st_al (l := 0) hT (by decide)
    refine sg_X10_allAnew_77 ?_
    simp (disch := omega) only [mg_in, mg_wr, wr_a, hT, forall_eq, true_and, inI, Int.add_zero]
    (repeat' (refine And.intro ?_ ?_)) <;> intros <;> (repeat' (refine And.intro ?_ ?_)) <;> intros <;> (repeat' (refine And.intro ?_ ?_)) <;> intros <;> (repeat' (refine And.intro ?_ ?_)) <;> intros <;> (repeat' (refine And.intro ?_ ?_)) <;> intros <;> (repeat' (refine And.intro ?_ ?_)) <;> intros <;> (repeat' (refine And.intro ?_ ?_)) <;> intros <;> (repeat' (refine And.intro ?_ ?_)) <;> intros
    all_goals first | omega | exact h2
  refine sg_X10_allAnew_77 ?_
  simp (disch := omega) only [mg_in, mg_wr, wr_a, hT, forall_eq, true_and, inI, Int.add_zero]
  (repeat' (refine And.intro ?_ ?_)) <;> intros <;> (repeat' (refine And.intro ?_ ?_)) <;> intros <;> (repeat' (refine And.intro ?_ ?_)) <;> intros <;> (repeat' (refine And.intro ?_ ?_)) <;> intros <;> (repeat' (refine And.intro ?_ ?_)) <;> intros <;> (repeat' (refine And.intro ?_ ?_)) <;> intros <;> (repeat' (refine And.intro ?_ ?_)) <;> intros <;> (repeat' (refine And.intro ?_ ?_)) <;> intros
  all_goals first | omega | exact h1
set_option maxHeartbeats 4000000 in
theorem L_al3 : ∀ (n : Nat) (e : Int) (σ : Hp), ST σ → 0 ≤ e → e + n = 4 → AW G mm_X10_allAnew b 77 [(0, vR 89), (1, vI 0)] [] (mg g (F_aes n e σ)) Q → AW G mm_X10_allAnew b 44 [(0, vR 89), (1, vI e)] [] (mg g σ) Q := by
  intro n
  induction n with
  | zero =>
    intro e σ hT e0 he hk
    have hk : AW G mm_X10_allAnew b 77 [(0, vR 89), (1, vI 0)] [] (mg g σ) Q := hk
    refine sg_X10_allAnew_44 ?_
    simp (disch := omega) only [mg_in, mg_wr, wr_a, hT, forall_eq, true_and, inI, Int.add_zero]
    (repeat' (refine And.intro ?_ ?_)) <;> intros <;> (repeat' (refine And.intro ?_ ?_)) <;> intros <;> (repeat' (refine And.intro ?_ ?_)) <;> intros <;> (repeat' (refine And.intro ?_ ?_)) <;> intros <;> (repeat' (refine And.intro ?_ ?_)) <;> intros <;> (repeat' (refine And.intro ?_ ?_)) <;> intros <;> (repeat' (refine And.intro ?_ ?_)) <;> intros <;> (repeat' (refine And.intro ?_ ?_)) <;> intros
    all_goals first | omega | exact hk
  | succ n ih =>
    intro e σ hT e0 he hk
    have ihk := ih (e + 1) (F_ae e σ) (st_ae hT e0) (by omega) (by omega) hk
    have hR : Runs G mm_X10_endAnew [vR 89, vI e, vI 0] (mg g σ) (fun r h' => AW G mm_X10_allAnew b 55 [(0, vR 89), (1, vI e)] (r.toList ++ []) h' Q) := by
      refine R_endAnew hT e0 (by omega) ?_
      have hT := st_anew (s := 0) hT e0
      refine sg_X10_allAnew_55 ?_
      simp (disch := omega) only [mg_in, mg_wr, wr_a, hT, forall_eq, true_and, inI, Int.add_zero]
      (repeat' (refine And.intro ?_ ?_)) <;> intros <;> (repeat' (refine And.intro ?_ ?_)) <;> intros <;> (repeat' (refine And.intro ?_ ?_)) <;> intros <;> (repeat' (refine And.intro ?_ ?_)) <;> intros <;> (repeat' (refine And.intro ?_ ?_)) <;> intros <;> (repeat' (refine And.intro ?_ ?_)) <;> intros <;> (repeat' (refine And.intro ?_ ?_)) <;> intros <;> (repeat' (refine And.intro ?_ ?_)) <;> intros
      all_goals first | omega | exact ihk
    refine sg_X10_allAnew_44 ?_
    simp (disch := omega) only [mg_in, mg_wr, wr_a, hT, forall_eq, true_and, inI, Int.add_zero]
    (repeat' (refine And.intro ?_ ?_)) <;> intros <;> (repeat' (refine And.intro ?_ ?_)) <;> intros <;> (repeat' (refine And.intro ?_ ?_)) <;> intros <;> (repeat' (refine And.intro ?_ ?_)) <;> intros <;> (repeat' (refine And.intro ?_ ?_)) <;> intros <;> (repeat' (refine And.intro ?_ ?_)) <;> intros <;> (repeat' (refine And.intro ?_ ?_)) <;> intros <;> (repeat' (refine And.intro ?_ ?_)) <;> intros
    all_goals first | omega | exact hR
set_option maxHeartbeats 4000000 in
theorem L_al2 {τ : Hp} (hS : ST τ) (hk : AW G mm_X10_allAnew b 44 [(0, vR 89), (1, vI 0)] [] (mg g (fl6 τ 92 0 8 (fun _ => 0))) Q) : ∀ (n : Nat) (i : Int), 0 ≤ i → i + n = 8 → AW G mm_X10_allAnew b 23 [(0, vR 89), (1, vI i)] [] (mg g (fl6 τ 92 0 i (fun _ => 0))) Q := by
  intro n
  induction n with
  | zero =>
    intro i i0 hi
    have hi2 : i = 8 := by omega
    subst hi2
    have hT := st_fl6 (a := 92) (dst := 0) (n := 8) (f := fun _ => 0) hS (by decide) (by decide) (by decide)
    refine sg_X10_allAnew_23 ?_
    try simp (disch := omega) only [mg_in, mg_wr, wr_a, hT, forall_eq, true_and, inI, Int.add_zero]
    (repeat' (refine And.intro ?_ ?_)) <;> intros <;> (repeat' (refine And.intro ?_ ?_)) <;> intros <;> (repeat' (refine And.intro ?_ ?_)) <;> intros <;> (repeat' (refine And.intro ?_ ?_)) <;> intros <;> (repeat' (refine And.intro ?_ ?_)) <;> intros <;> (repeat' (refine And.intro ?_ ?_)) <;> intros <;> (repeat' (refine And.intro ?_ ?_)) <;> intros <;> (repeat' (refine And.intro ?_ ?_)) <;> intros
    all_goals first | omega | exact hk
  | succ n ih =>
    intro i i0 hi
    have hT := st_fl6 (a := 92) (dst := 0) (n := i) (f := fun _ => 0) hS (by decide) (by decide) (by decide)
    have ihk := ih (i + 1) (by omega) (by omega)
    rw [← fl6_s (x := 0) i0 rfl, Int.zero_add] at ihk
    refine sg_X10_allAnew_23 ?_
    simp (disch := omega) only [mg_in, mg_wr, wr_a, hT, forall_eq, true_and, inI, Int.add_zero]
    (repeat' (refine And.intro ?_ ?_)) <;> intros <;> (repeat' (refine And.intro ?_ ?_)) <;> intros <;> (repeat' (refine And.intro ?_ ?_)) <;> intros <;> (repeat' (refine And.intro ?_ ?_)) <;> intros <;> (repeat' (refine And.intro ?_ ?_)) <;> intros <;> (repeat' (refine And.intro ?_ ?_)) <;> intros <;> (repeat' (refine And.intro ?_ ?_)) <;> intros <;> (repeat' (refine And.intro ?_ ?_)) <;> intros
    all_goals first | omega | exact ihk
set_option maxHeartbeats 4000000 in
theorem L_al1 {τ : Hp} (hS : ST τ) (hk : AW G mm_X10_allAnew b 23 [(0, vR 89), (1, vI 0)] [] (mg g (fl6 τ 90 0 24 (fun _ => 0))) Q) : ∀ (n : Nat) (i : Int), 0 ≤ i → i + n = 24 → AW G mm_X10_allAnew b 2 [(0, vR 89), (1, vI i)] [] (mg g (fl6 τ 90 0 i (fun _ => 0))) Q := by
  intro n
  induction n with
  | zero =>
    intro i i0 hi
    have hi2 : i = 24 := by omega
    subst hi2
    have hT := st_fl6 (a := 90) (dst := 0) (n := 24) (f := fun _ => 0) hS (by decide) (by decide) (by decide)
    refine sg_X10_allAnew_2 ?_
    try simp (disch := omega) only [mg_in, mg_wr, wr_a, hT, forall_eq, true_and, inI, Int.add_zero]
    (repeat' (refine And.intro ?_ ?_)) <;> intros <;> (repeat' (refine And.intro ?_ ?_)) <;> intros <;> (repeat' (refine And.intro ?_ ?_)) <;> intros <;> (repeat' (refine And.intro ?_ ?_)) <;> intros <;> (repeat' (refine And.intro ?_ ?_)) <;> intros <;> (repeat' (refine And.intro ?_ ?_)) <;> intros <;> (repeat' (refine And.intro ?_ ?_)) <;> intros <;> (repeat' (refine And.intro ?_ ?_)) <;> intros
    all_goals first | omega | exact hk
  | succ n ih =>
    intro i i0 hi
    have hT := st_fl6 (a := 90) (dst := 0) (n := i) (f := fun _ => 0) hS (by decide) (by decide) (by decide)
    have ihk := ih (i + 1) (by omega) (by omega)
    rw [← fl6_s (x := 0) i0 rfl, Int.zero_add] at ihk
    refine sg_X10_allAnew_2 ?_
    simp (disch := omega) only [mg_in, mg_wr, wr_a, hT, forall_eq, true_and, inI, Int.add_zero]
    (repeat' (refine And.intro ?_ ?_)) <;> intros <;> (repeat' (refine And.intro ?_ ?_)) <;> intros <;> (repeat' (refine And.intro ?_ ?_)) <;> intros <;> (repeat' (refine And.intro ?_ ?_)) <;> intros <;> (repeat' (refine And.intro ?_ ?_)) <;> intros <;> (repeat' (refine And.intro ?_ ?_)) <;> intros <;> (repeat' (refine And.intro ?_ ?_)) <;> intros <;> (repeat' (refine And.intro ?_ ?_)) <;> intros
    all_goals first | omega | exact ihk
theorem R_all (hT : ST σ) (hk : Q none (mg g (F_all σ))) : Runs G mm_X10_allAnew [vR 89] (mg g σ) Q := by
  have h1 := st_fl6 (a := 90) (dst := 0) (n := 24) (f := fun _ => 0) hT (by decide) (by decide) (by decide)
  have h2 := st_fl6 (a := 92) (dst := 0) (n := 8) (f := fun _ => 0) h1 (by decide) (by decide) (by decide)
  have h3 := st_aes 4 0 _ h2 (by decide)
  have l4 := L_al4 (G := G) (b := (0, 0)) (Q := Q) (g := g) h3 hk
  have l3 := L_al3 (G := G) (b := (0, 0)) (Q := Q) (g := g) 4 0 _ h2 (by decide) (by decide) l4
  have l2 := L_al2 (G := G) (b := (0, 0)) (Q := Q) (g := g) h1 l3 8 0 (by decide) (by decide)
  rw [fl6_0] at l2
  have l1 := L_al1 (G := G) (b := (0, 0)) (Q := Q) (g := g) hT l2 24 0 (by decide) (by decide)
  rw [fl6_0] at l1
  exact rn_X10_allAnew l1
end RG
