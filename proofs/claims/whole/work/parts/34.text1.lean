/-! the reference: the text, token by token -/
theorem wr_ww {h : Hp} {a k x y : Int} : wr (wr h a k x) a k y = wr h a k y := by
  funext c j
  unfold wr
  split
  · rfl
  · rfl
def skp (t : Int → Int) (L : Int) : Nat → Int → Int
  | 0, p => p
  | n + 1, p => if p < L ∧ t p = 32 then skp t L n (p + 1) else p
def rnk (t : Int → Int) (L s d : Int) : Nat → Int → Int
  | 0, p => p
  | n + 1, p => if p < L ∧ ((¬ s = 0 ∧ 97 ≤ t p ∧ t p ≤ 122) ∨ (¬ d = 0 ∧ 48 ≤ t p ∧ t p ≤ 57)) then rnk t L s d n (p + 1) else p
theorem skp_in {t : Int → Int} {L : Int} : ∀ (n : Nat) (p : Int), p + n ≤ L → p ≤ skp t L n p ∧ skp t L n p ≤ L
  | 0, p, h => by
    show p ≤ p ∧ p ≤ L
    omega
  | n + 1, p, h => by
    have := skp_in (t := t) (L := L) n (p + 1) (by omega)
    unfold skp
    split <;> omega
theorem rnk_in {t : Int → Int} {L s d : Int} : ∀ (n : Nat) (p : Int), p + n ≤ L → p ≤ rnk t L s d n p ∧ rnk t L s d n p ≤ L
  | 0, p, h => by
    show p ≤ p ∧ p ≤ L
    omega
  | n + 1, p, h => by
    have := rnk_in (t := t) (L := L) (s := s) (d := d) n (p + 1) (by omega)
    unfold rnk
    split <;> omega
def tkF (t : Int → Int) (L p : Int) : Int := skp t L (L - p).toNat p
def tkS (t : Int → Int) (L f : Int) : Int := if f < L ∧ 97 ≤ t f ∧ t f ≤ 122 then 1 else 0
def tkD (t : Int → Int) (L f : Int) : Int := if f < L ∧ 48 ≤ t f ∧ t f ≤ 57 then 1 else 0
def tk1 (L f : Int) : Int := if f < L then f + 1 else f
def tkB (t : Int → Int) (L f : Int) : Int := rnk t L (tkS t L f) (tkD t L f) (L - tk1 L f).toNat (tk1 L f)
def F_next (σ : Hp) : Hp := wr (wr σ 89 32 (tkF (σ 114) (σ 89 31) (σ 89 33))) 89 33 (tkB (σ 114) (σ 89 31) (tkF (σ 114) (σ 89 31) (σ 89 33)))
section RC
variable {G : GG} {b : Nat × Nat} {Q : Option VV → Hp → Prop} {g σ : Hp}
set_option maxHeartbeats 4000000 in
theorem L_nx2 {f s d : Int} (hT : ST σ) (l0 : 0 ≤ σ 89 31) (l1 : σ 89 31 ≤ 200) : ∀ (n : Nat) (p : Int), 0 ≤ p → p + n = σ 89 31 → Q none (mg g (wr (wr σ 89 32 f) 89 33 (rnk (σ 114) (σ 89 31) s d n p))) → AW G mm_X10_next b 138 [(0, vR 89), (1, vI s), (2, vI d)] [] (mg g (wr (wr σ 89 32 f) 89 33 p)) Q := by
  intro n
  induction n with
  | zero =>
    intro p p0 hp hk
    have hk : Q none (mg g (wr (wr σ 89 32 f) 89 33 p)) := hk
    refine sg_X10_next_138 ?_
    simp (disch := omega) only [mg_in, mg_wr, wr_a, wr_e, wr_k, wr_ww, hT, forall_eq, true_and, inI, Int.add_zero]
    (repeat' (refine And.intro ?_ ?_)) <;> intros <;> (repeat' (refine And.intro ?_ ?_)) <;> intros <;> (repeat' (refine And.intro ?_ ?_)) <;> intros <;> (repeat' (refine And.intro ?_ ?_)) <;> intros <;> (repeat' (refine And.intro ?_ ?_)) <;> intros <;> (repeat' (refine And.intro ?_ ?_)) <;> intros <;> (repeat' (refine And.intro ?_ ?_)) <;> intros <;> (repeat' (refine And.intro ?_ ?_)) <;> intros
    all_goals first | omega | exact hk
  | succ n ih =>
    intro p p0 hp hk
    have hk : Q none (mg g (wr (wr σ 89 32 f) 89 33 (if p < σ 89 31 ∧ ((¬ s = 0 ∧ 97 ≤ σ 114 p ∧ σ 114 p ≤ 122) ∨ (¬ d = 0 ∧ 48 ≤ σ 114 p ∧ σ 114 p ≤ 57)) then rnk (σ 114) (σ 89 31) s d n (p + 1) else p))) := hk
    have ihk := ih (p + 1) (by omega) (by omega)
    refine sg_X10_next_138 ?_
    simp (disch := omega) only [mg_in, mg_wr, wr_a, wr_e, wr_k, wr_ww, hT, forall_eq, true_and, inI, Int.add_zero]
    (repeat' (refine And.intro ?_ ?_)) <;> intros <;> (repeat' (refine And.intro ?_ ?_)) <;> intros <;> (repeat' (refine And.intro ?_ ?_)) <;> intros <;> (repeat' (refine And.intro ?_ ?_)) <;> intros <;> (repeat' (refine And.intro ?_ ?_)) <;> intros <;> (repeat' (refine And.intro ?_ ?_)) <;> intros <;> (repeat' (refine And.intro ?_ ?_)) <;> intros <;> (repeat' (refine And.intro ?_ ?_)) <;> intros
    all_goals first
      | omega
      | (rw [if_pos (by omega)] at hk; exact ihk hk)
      | (rw [if_neg (by omega)] at hk; exact hk)
set_option maxHeartbeats 8000000 in
theorem L_nx1 (hT : ST σ) (l0 : 0 ≤ σ 89 31) (l1 : σ 89 31 ≤ 200) : ∀ (n : Nat) (p : Int), 0 ≤ p → p + n = σ 89 31 → Q none (mg g (wr (wr σ 89 32 (skp (σ 114) (σ 89 31) n p)) 89 33 (tkB (σ 114) (σ 89 31) (skp (σ 114) (σ 89 31) n p)))) → AW G mm_X10_next b 8 [(0, vR 89)] [] (mg g (wr σ 89 32 p)) Q := by
  have fin : ∀ f, 0 ≤ f → f ≤ σ 89 31 → Q none (mg g (wr (wr σ 89 32 f) 89 33 (tkB (σ 114) (σ 89 31) f))) → ∀ s d p, s = tkS (σ 114) (σ 89 31) f → d = tkD (σ 114) (σ 89 31) f → p = tk1 (σ 89 31) f → AW G mm_X10_next b 138 [(0, vR 89), (1, vI s), (2, vI d)] [] (mg g (wr (wr σ 89 32 f) 89 33 p)) Q := by
    intro f f0 f1 hk s d p hs hd hp
    subst hs hd hp
    have h1 : 0 ≤ tk1 (σ 89 31) f ∧ tk1 (σ 89 31) f ≤ σ 89 31 := by
      unfold tk1
      split <;> omega
    exact L_nx2 hT l0 l1 _ _ h1.1 (by omega) hk
  intro n
  induction n with
  | zero =>
    intro p p0 hp hk
    have hL := fin p p0 (by omega) hk
    unfold tkS tkD tk1 at hL
    rw [if_neg (by omega), if_neg (by omega), if_neg (by omega)] at hL
    have hL := hL 0 0 p rfl rfl rfl
    refine sg_X10_next_8 ?_
    simp (disch := omega) only [mg_in, mg_wr, wr_a, wr_e, wr_k, wr_ww, hT, forall_eq, true_and, inI, Int.add_zero]
    (repeat' (refine And.intro ?_ ?_)) <;> intros <;> (repeat' (refine And.intro ?_ ?_)) <;> intros <;> (repeat' (refine And.intro ?_ ?_)) <;> intros <;> (repeat' (refine And.intro ?_ ?_)) <;> intros <;> (repeat' (refine And.intro ?_ ?_)) <;> intros <;> (repeat' (refine And.intro ?_ ?_)) <;> intros <;> (repeat' (refine And.intro ?_ ?_)) <;> intros <;> (repeat' (refine And.intro ?_ ?_)) <;> intros <;> (repeat' (refine And.intro ?_ ?_)) <;> intros <;> (repeat' (refine And.intro ?_ ?_)) <;> intros <;> (repeat' (refine And.intro ?_ ?_)) <;> intros <;> (repeat' (refine And.intro ?_ ?_)) <;> intros
    all_goals first | omega | exact hL
  | succ n ih =>
    intro p p0 hp hk
    have ihk := ih (p + 1) (by omega) (by omega)
    have e1 : skp (σ 114) (σ 89 31) (n + 1) p = if p < σ 89 31 ∧ σ 114 p = 32 then skp (σ 114) (σ 89 31) n (p + 1) else p := rfl
    rw [e1] at hk
    by_cases c : p < σ 89 31 ∧ σ 114 p = 32
    · rw [if_pos c] at hk
      have ihk := ihk hk
      refine sg_X10_next_8 ?_
      simp (disch := omega) only [mg_in, mg_wr, wr_a, wr_e, wr_k, wr_ww, hT, forall_eq, true_and, inI, Int.add_zero]
      (repeat' (refine And.intro ?_ ?_)) <;> intros <;> (repeat' (refine And.intro ?_ ?_)) <;> intros <;> (repeat' (refine And.intro ?_ ?_)) <;> intros <;> (repeat' (refine And.intro ?_ ?_)) <;> intros <;> (repeat' (refine And.intro ?_ ?_)) <;> intros <;> (repeat' (refine And.intro ?_ ?_)) <;> intros <;> (repeat' (refine And.intro ?_ ?_)) <;> intros <;> (repeat' (refine And.intro ?_ ?_)) <;> intros <;> (repeat' (refine And.intro ?_ ?_)) <;> intros <;> (repeat' (refine And.intro ?_ ?_)) <;> intros <;> (repeat' (refine And.intro ?_ ?_)) <;> intros <;> (repeat' (refine And.intro ?_ ?_)) <;> intros
      all_goals first | omega | exact ihk
    · rw [if_neg c] at hk
      have hL := fin p p0 (by omega) hk
      have hp1 : p < σ 89 31 := by omega
      have h32 : ¬ σ 114 p = 32 := fun q => c ⟨hp1, q⟩
      refine sg_X10_next_8 ?_
      simp (disch := omega) only [mg_in, mg_wr, wr_a, wr_e, wr_k, wr_ww, hT, forall_eq, true_and, inI, Int.add_zero]
      (repeat' (refine And.intro ?_ ?_)) <;> intros <;> (repeat' (refine And.intro ?_ ?_)) <;> intros <;> (repeat' (refine And.intro ?_ ?_)) <;> intros <;> (repeat' (refine And.intro ?_ ?_)) <;> intros <;> (repeat' (refine And.intro ?_ ?_)) <;> intros <;> (repeat' (refine And.intro ?_ ?_)) <;> intros <;> (repeat' (refine And.intro ?_ ?_)) <;> intros <;> (repeat' (refine And.intro ?_ ?_)) <;> intros <;> (repeat' (refine And.intro ?_ ?_)) <;> intros <;> (repeat' (refine And.intro ?_ ?_)) <;> intros <;> (repeat' (refine And.intro ?_ ?_)) <;> intros <;> (repeat' (refine And.intro ?_ ?_)) <;> intros
      all_goals first
        | omega
        | (refine hL _ _ _ ?_ ?_ ?_
           · unfold tkS; split <;> omega
           · unfold tkD; split <;> omega
           · unfold tk1; split <;> omega)
theorem R_next (hT : ST σ) (l0 : 0 ≤ σ 89 31) (l1 : σ 89 31 ≤ 200) (p0 : 0 ≤ σ 89 33) (p1 : σ 89 33 ≤ σ 89 31) (hk : Q none (mg g (F_next σ))) : Runs G mm_X10_next [vR 89] (mg g σ) Q := by
  have hL := L_nx1 (G := G) (b := (0, 0)) (Q := Q) (g := g) hT l0 l1 (σ 89 31 - σ 89 33).toNat (σ 89 33) p0 (by omega) hk
  refine rn_X10_next ?_
  simp (disch := omega) only [mg_in, mg_wr, wr_a, wr_e, wr_k, wr_ww, hT, forall_eq, true_and, inI, Int.add_zero]
  (repeat' (refine And.intro ?_ ?_)) <;> intros <;> (repeat' (refine And.intro ?_ ?_)) <;> intros <;> (repeat' (refine And.intro ?_ ?_)) <;> intros <;> (repeat' (refine And.intro ?_ ?_)) <;> intros
  all_goals first | omega | exact hL
end RC
