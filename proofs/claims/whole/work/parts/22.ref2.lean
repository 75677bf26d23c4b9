/-! the reference: what is told, sent, tried again, broken -/
theorem tells_off {e k n r v a : Int} {σ : Hp} (h1 : a ≠ 110) (h2 : a ≠ 112) : F_tells e k n r v σ a = σ a := by
  funext j
  unfold F_tells
  simp only [wr_a h1, wr_a h2]
theorem tells_112 {e k n r v : Int} {σ : Hp} : F_tells e k n r v σ 112 (e % 2) = σ 112 (e % 2) + 1 := wr_e
theorem tells_112o {e k n r v j : Int} {σ : Hp} (h : j ≠ e % 2) : F_tells e k n r v σ 112 j = σ 112 j := by
  unfold F_tells
  rw [wr_k h, wr_a (by decide), wr_a (by decide), wr_a (by decide), wr_a (by decide), wr_a (by decide)]
theorem st_tells {e k n r v : Int} {σ : Hp} (hT : ST σ) (h0 : 0 ≤ σ 112 (e % 2)) : ST (F_tells e k n r v σ) := by
  have h1 := Int.emod_nonneg e (show (2 : Int) ≠ 0 by decide)
  have h2 : 0 ≤ T0 e σ := by unfold T0; omega
  unfold F_tells
  exact st_wr (st_wr (st_wr (st_wr (st_wr (st_wr hT (by decide) (by decide) h2) (by decide) (by decide) (by omega)) (by decide) (by decide) (by omega)) (by decide) (by decide) (by omega)) (by decide) (by decide) (by omega)) (by decide) (by decide) h1
def F_old (e r v : Int) (σ : Hp) : Hp := wr (wr (cpx (wr (F_tells e (σ 97 (28 * e + 1)) (σ 97 (28 * e)) r v σ) 96 e (σ 96 e - 1)) 97 (28 * e) 97 (28 * e + 7) (7 * (σ 96 e - 1))) 101 e 0) 102 e 0
theorem old_off {e r v a : Int} {σ : Hp} (h1 : a ≠ 110) (h2 : a ≠ 112) (h3 : a ≠ 96) (h4 : a ≠ 97) (h5 : a ≠ 101) (h6 : a ≠ 102) : F_old e r v σ a = σ a := by
  funext j
  unfold F_old
  rw [wr_a h6, wr_a h5, cpx_off h4, wr_a h3, tells_off h1 h2]
theorem old_96 {e r v : Int} {σ : Hp} : F_old e r v σ 96 e = σ 96 e - 1 := by
  unfold F_old
  rw [wr_a (by decide), wr_a (by decide), cpx_off (by decide), wr_e]
theorem old_96o {e r v j : Int} {σ : Hp} (h : j ≠ e) : F_old e r v σ 96 j = σ 96 j := by
  unfold F_old
  rw [wr_a (by decide), wr_a (by decide), cpx_off (by decide), wr_k h, tells_off (by decide) (by decide)]
theorem old_112 {e r v : Int} {σ : Hp} : F_old e r v σ 112 (e % 2) = σ 112 (e % 2) + 1 := by
  unfold F_old
  rw [wr_a (by decide), wr_a (by decide), cpx_off (by decide), wr_a (by decide), tells_112]
theorem old_112o {e r v j : Int} {σ : Hp} (h : j ≠ e % 2) : F_old e r v σ 112 j = σ 112 j := by
  unfold F_old
  rw [wr_a (by decide), wr_a (by decide), cpx_off (by decide), wr_a (by decide), tells_112o h]
theorem old_101 {e r v : Int} {σ : Hp} : F_old e r v σ 101 e = 0 := by
  unfold F_old
  rw [wr_a (by decide), wr_e]
theorem old_101o {e r v j : Int} {σ : Hp} (h : j ≠ e) : F_old e r v σ 101 j = σ 101 j := by
  unfold F_old
  rw [wr_a (by decide), wr_k h, cpx_off (by decide), wr_a (by decide), tells_off (by decide) (by decide)]
theorem old_102 {e r v : Int} {σ : Hp} : F_old e r v σ 102 e = 0 := wr_e
theorem old_102o {e r v j : Int} {σ : Hp} (h : j ≠ e) : F_old e r v σ 102 j = σ 102 j := by
  unfold F_old
  rw [wr_k h, wr_a (by decide), cpx_off (by decide), wr_a (by decide), tells_off (by decide) (by decide)]
theorem old_97i {e r v j : Int} {σ : Hp} (h1 : 28 * e ≤ j) (h2 : j < 28 * e + 7 * (σ 96 e - 1)) : F_old e r v σ 97 j = σ 97 (j + 7) := by
  unfold F_old
  rw [wr_a (by decide), wr_a (by decide), cpx_in h1 h2, wr_a (by decide), tells_off (by decide) (by decide)]
  congr 1
  omega
theorem old_97o {e r v j : Int} {σ : Hp} (h : j < 28 * e ∨ 28 * e + 7 * (σ 96 e - 1) ≤ j) : F_old e r v σ 97 j = σ 97 j := by
  unfold F_old
  rw [wr_a (by decide), wr_a (by decide), cpx_out h, wr_a (by decide), tells_off (by decide) (by decide)]
theorem old_110 {e r v j : Int} {σ : Hp} : F_old e r v σ 110 j = F_tells e (σ 97 (28 * e + 1)) (σ 97 (28 * e)) r v σ 110 j := by
  unfold F_old
  rw [wr_a (by decide), wr_a (by decide), cpx_off (by decide), wr_a (by decide)]
theorem st_old {e r v : Int} {σ : Hp} (hT : ST σ) (he : 0 ≤ e) (h0 : 0 ≤ σ 112 (e % 2)) : ST (F_old e r v σ) := by
  unfold F_old
  exact st_wr (st_wr (st_cpx (st_wr (st_tells hT h0) (by decide) (by decide) he) (by decide) (by decide) (by omega)) (by decide) (by decide) he) (by decide) (by decide) he
section R2
variable {G : GG} {b : Nat × Nat} {Q : Option VV → Hp → Prop} {g σ : Hp}
set_option maxHeartbeats 4000000 in
theorem L_old {e : Int} {τ : Hp} (hS : ST τ) (h0 : 0 ≤ e) (h1 : e < 4) (ho : 0 ≤ τ 96 e) (ho2 : τ 96 e ≤ 3) (hk : Q none (mg g (wr (wr (cpx τ 97 (28 * e) 97 (28 * e + 7) (7 * τ 96 e)) 101 e 0) 102 e 0))) : ∀ (n : Nat) (i : Int), 0 ≤ i → i + n = 7 * τ 96 e → AW G mm_X10_tellsOldest b 44 [(0, vR 89), (1, vI e), (4, vI (28 * e)), (5, vI i)] [] (mg g (cpx τ 97 (28 * e) 97 (28 * e + 7) i)) Q := by
  intro n
  induction n with
  | zero =>
    intro i hi hn
    have hi2 : i = 7 * τ 96 e := by omega
    subst hi2
    have hT := st_cpx (a := 97) (dst := 28 * e) (b := 97) (src := 28 * e + 7) (n := 7 * τ 96 e) hS (by decide) (by decide) (by omega)
    have e96 : cpx τ 97 (28 * e) 97 (28 * e + 7) (7 * τ 96 e) 96 e = τ 96 e := cpx_off (by decide)
    refine sg_X10_tellsOldest_44 ?_
    simp (disch := omega) only [mg_in, mg_wr, wr_a, hT, forall_eq, true_and, inI, Int.add_zero]
    rw [e96]
    (repeat' (refine And.intro ?_ ?_)) <;> intros <;> (repeat' (refine And.intro ?_ ?_)) <;> intros <;> (repeat' (refine And.intro ?_ ?_)) <;> intros <;> (repeat' (refine And.intro ?_ ?_)) <;> intros
    all_goals first | omega | exact hk
  | succ n ih =>
    intro i hi hn
    have hT := st_cpx (a := 97) (dst := 28 * e) (b := 97) (src := 28 * e + 7) (n := i) hS (by decide) (by decide) (by omega)
    have e96 : cpx τ 97 (28 * e) 97 (28 * e + 7) i 96 e = τ 96 e := cpx_off (by decide)
    have ihk := ih (i + 1) (by omega) (by omega)
    rw [← cpx_s hi (Or.inr (Or.inl (by omega)))] at ihk
    refine sg_X10_tellsOldest_44 ?_
    simp (disch := omega) only [mg_in, mg_wr, wr_a, hT, forall_eq, true_and, inI, Int.add_zero]
    rw [e96]
    (repeat' (refine And.intro ?_ ?_)) <;> intros <;> (repeat' (refine And.intro ?_ ?_)) <;> intros <;> (repeat' (refine And.intro ?_ ?_)) <;> intros <;> (repeat' (refine And.intro ?_ ?_)) <;> intros
    all_goals first | omega | exact ihk
set_option maxHeartbeats 4000000 in
theorem R_old {e r v : Int} (hT : ST σ) (h0 : 0 ≤ e) (h1 : e < 4) (ht : 0 ≤ σ 112 (e % 2)) (ht2 : σ 112 (e % 2) < 600) (ho : 1 ≤ σ 96 e) (ho2 : σ 96 e ≤ 4) (hk : Q none (mg g (F_old e r v σ))) : Runs G mm_X10_tellsOldest [vR 89, vI e, vI r, vI v] (mg g σ) Q := by
  refine rn_X10_tellsOldest ?_
  simp (disch := omega) only [mg_in, mg_wr, wr_a, hT, forall_eq, true_and, inI, Int.add_zero]
  (repeat' (refine And.intro ?_ ?_)) <;> intros <;> (repeat' (refine And.intro ?_ ?_)) <;> intros <;> (repeat' (refine And.intro ?_ ?_)) <;> intros <;> (repeat' (refine And.intro ?_ ?_)) <;> intros
  all_goals first
    | omega
    | (refine R_tells hT h0 ht ht2 ?_
       have hT := st_tells (e := e) (k := σ 97 (28 * e + 1)) (n := σ 97 (28 * e)) (r := r) (v := v) hT ht
       have e96 : F_tells e (σ 97 (28 * e + 1)) (σ 97 (28 * e)) r v σ 96 e = σ 96 e := by rw [tells_off (by decide) (by decide)]
       refine sg_X10_tellsOldest_31 ?_
       simp (disch := omega) only [mg_in, mg_wr, wr_a, hT, forall_eq, true_and, inI, Int.add_zero]
       rw [e96]
       refine ⟨h0, h1, ⟨by omega, by omega⟩, ?_⟩
       have hL := L_old (G := G) (b := (0, 0)) (Q := Q) (g := g) (e := e) (τ := wr (F_tells e (σ 97 (28 * e + 1)) (σ 97 (28 * e)) r v σ) 96 e (σ 96 e - 1)) (st_wr hT (by decide) (by decide) h0) h0 h1 (by rw [wr_e]; omega) (by rw [wr_e]; omega) (by rw [wr_e]; exact hk) (7 * (σ 96 e - 1)).toNat 0 (Int.le_refl 0) (by rw [wr_e]; omega)
       rw [cpx_0] at hL
       exact hL)
end R2
