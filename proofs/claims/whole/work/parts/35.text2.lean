/-! the reference: the word that is here, and numbers -/
def wk (t W : Int → Int) (f b w : Int) : Nat → Int
  | 0 => if f < b ∧ b - f < 6 then 1 else 0
  | k + 1 => if wk t W f b w k = 0 then 0 else if W (5 * w + (k : Int)) = (if f + (k : Int) < b then t (f + (k : Int)) else 0) then 1 else 0
theorem wk_or {t W : Int → Int} {f b w : Int} : ∀ k : Nat, wk t W f b w k = 0 ∨ wk t W f b w k = 1
  | 0 => by
    unfold wk
    split <;> omega
  | k + 1 => by
    unfold wk
    (repeat' split) <;> omega
theorem wk_z {t W : Int → Int} {f b w : Int} {k : Nat} (h : wk t W f b w k = 0) : ∀ d : Nat, wk t W f b w (k + d) = 0
  | 0 => h
  | d + 1 => by
    have := wk_z h d
    show wk t W f b w (k + d + 1) = 0
    unfold wk
    rw [if_pos this]
def wdh (t W : Int → Int) (f b : Int) : Nat → Int → Int
  | 0, _ => -1
  | n + 1, w => if wk t W f b w 5 = 0 then wdh t W f b n (w + 1) else w
theorem wdh_in {t W : Int → Int} {f b : Int} : ∀ (n : Nat) (w : Int), 0 ≤ w → w + n = 6 → -1 ≤ wdh t W f b n w ∧ wdh t W f b n w ≤ 5
  | 0, _, _, _ => ⟨Int.le_refl _, by show (-1 : Int) ≤ 5; decide⟩
  | n + 1, w, h0, h1 => by
    have := wdh_in (t := t) (W := W) (f := f) (b := b) n (w + 1) (by omega) (by omega)
    unfold wdh
    split <;> omega
def wdH (σ : Hp) : Int := wdh (σ 114) (σ 116) (σ 89 32) (σ 89 33) 6 0
section RD
variable {G : GG} {b : Nat × Nat} {Q : Option VV → Hp → Prop} {g σ : Hp}
set_option maxHeartbeats 4000000 in
theorem L_wk {w : Int} (hT : ST σ) (f0 : 0 ≤ σ 89 32) (f1 : σ 89 32 ≤ σ 89 33) (f2 : σ 89 33 ≤ 200) (w0 : 0 ≤ w) (w1 : w < 6) (h1 : wk (σ 114) (σ 116) (σ 89 32) (σ 89 33) w 5 = 0 → AW G mm_X10_wordHere b 2 [(0, vR 89), (1, vI (w + 1))] [] (mg g σ) Q) (h2 : ¬ wk (σ 114) (σ 116) (σ 89 32) (σ 89 33) w 5 = 0 → Q (some (vI w)) (mg g σ)) : ∀ (n k : Nat), k + n = 5 → AW G mm_X10_wordHere b 41 [(0, vR 89), (1, vI w), (2, vI (wk (σ 114) (σ 116) (σ 89 32) (σ 89 33) w k)), (3, vI (k : Int))] [] (mg g σ) Q := by
  intro n
  induction n with
  | zero =>
    intro k hk
    have hk5 : k = 5 := by omega
    subst hk5
    refine sg_X10_wordHere_41 ?_
    simp (disch := omega) only [mg_in, mg_wr, wr_a, wr_e, wr_k, wr_ww, hT, forall_eq, true_and, inI, Int.add_zero]
    (repeat' (refine And.intro ?_ ?_)) <;> intros <;> (repeat' (refine And.intro ?_ ?_)) <;> intros <;> (repeat' (refine And.intro ?_ ?_)) <;> intros <;> (repeat' (refine And.intro ?_ ?_)) <;> intros <;> (repeat' (refine And.intro ?_ ?_)) <;> intros <;> (repeat' (refine And.intro ?_ ?_)) <;> intros <;> (repeat' (refine And.intro ?_ ?_)) <;> intros <;> (repeat' (refine And.intro ?_ ?_)) <;> intros
    all_goals first
      | omega
      | exact h1 (by assumption)
      | exact h2 (by assumption)
  | succ n ih =>
    intro k hk
    have ihk := ih (k + 1) (by omega)
    have hz := fun h => wk_z (t := σ 114) (W := σ 116) (f := σ 89 32) (b := σ 89 33) (w := w) (k := k) h (n + 1)
    rw [hk] at hz
    have e1 : wk (σ 114) (σ 116) (σ 89 32) (σ 89 33) w (k + 1) = if wk (σ 114) (σ 116) (σ 89 32) (σ 89 33) w k = 0 then 0 else if σ 116 (5 * w + (k : Int)) = (if σ 89 32 + (k : Int) < σ 89 33 then σ 114 (σ 89 32 + (k : Int)) else 0) then 1 else 0 := rfl
    rw [e1, show ((k + 1 : Nat) : Int) = (k : Int) + 1 from rfl] at ihk
    refine sg_X10_wordHere_41 ?_
    simp (disch := omega) only [mg_in, mg_wr, wr_a, wr_e, wr_k, wr_ww, hT, forall_eq, true_and, inI, Int.add_zero]
    (repeat' (refine And.intro ?_ ?_)) <;> intros <;> (repeat' (refine And.intro ?_ ?_)) <;> intros <;> (repeat' (refine And.intro ?_ ?_)) <;> intros <;> (repeat' (refine And.intro ?_ ?_)) <;> intros <;> (repeat' (refine And.intro ?_ ?_)) <;> intros <;> (repeat' (refine And.intro ?_ ?_)) <;> intros <;> (repeat' (refine And.intro ?_ ?_)) <;> intros <;> (repeat' (refine And.intro ?_ ?_)) <;> intros <;> (repeat' (refine And.intro ?_ ?_)) <;> intros <;> (repeat' (refine And.intro ?_ ?_)) <;> intros <;> (repeat' (refine And.intro ?_ ?_)) <;> intros <;> (repeat' (refine And.intro ?_ ?_)) <;> intros
    all_goals first
      | omega
      | exact h1 (hz (by assumption))
      | ((repeat (first | rw [if_pos (by omega)] at ihk | rw [if_neg (by omega)] at ihk)); exact ihk)
set_option maxHeartbeats 4000000 in
theorem L_wdh (hT : ST σ) (f0 : 0 ≤ σ 89 32) (f1 : σ 89 32 ≤ σ 89 33) (f2 : σ 89 33 ≤ 200) : ∀ (n : Nat) (w : Int), 0 ≤ w → w + n = 6 → Q (some (vI (wdh (σ 114) (σ 116) (σ 89 32) (σ 89 33) n w))) (mg g σ) → AW G mm_X10_wordHere b 2 [(0, vR 89), (1, vI w)] [] (mg g σ) Q := by
  intro n
  induction n with
  | zero =>
    intro w w0 hw hk
    have hk : Q (some (vI (-1))) (mg g σ) := hk
    refine sg_X10_wordHere_2 ?_
    simp (disch := omega) only [mg_in, mg_wr, wr_a, wr_e, wr_k, wr_ww, hT, forall_eq, true_and, inI, Int.add_zero]
    (repeat' (refine And.intro ?_ ?_)) <;> intros <;> (repeat' (refine And.intro ?_ ?_)) <;> intros <;> (repeat' (refine And.intro ?_ ?_)) <;> intros <;> (repeat' (refine And.intro ?_ ?_)) <;> intros <;> (repeat' (refine And.intro ?_ ?_)) <;> intros <;> (repeat' (refine And.intro ?_ ?_)) <;> intros <;> (repeat' (refine And.intro ?_ ?_)) <;> intros <;> (repeat' (refine And.intro ?_ ?_)) <;> intros
    all_goals first | omega | exact hk
  | succ n ih =>
    intro w w0 hw hk
    have e1 : wdh (σ 114) (σ 116) (σ 89 32) (σ 89 33) (n + 1) w = if wk (σ 114) (σ 116) (σ 89 32) (σ 89 33) w 5 = 0 then wdh (σ 114) (σ 116) (σ 89 32) (σ 89 33) n (w + 1) else w := rfl
    rw [e1] at hk
    have hL := L_wk (G := G) (b := b) (Q := Q) (g := g) (w := w) hT f0 f1 f2 w0 (by omega) (fun h => by rw [if_pos h] at hk; exact ih (w + 1) (by omega) (by omega) hk) (fun h => by rw [if_neg h] at hk; exact hk) 5 0 rfl
    have e2 : wk (σ 114) (σ 116) (σ 89 32) (σ 89 33) w 0 = if σ 89 32 < σ 89 33 ∧ σ 89 33 - σ 89 32 < 6 then 1 else 0 := rfl
    rw [e2] at hL
    refine sg_X10_wordHere_2 ?_
    simp (disch := omega) only [mg_in, mg_wr, wr_a, wr_e, wr_k, wr_ww, hT, forall_eq, true_and, inI, Int.add_zero]
    (repeat' (refine And.intro ?_ ?_)) <;> intros <;> (repeat' (refine And.intro ?_ ?_)) <;> intros <;> (repeat' (refine And.intro ?_ ?_)) <;> intros <;> (repeat' (refine And.intro ?_ ?_)) <;> intros <;> (repeat' (refine And.intro ?_ ?_)) <;> intros <;> (repeat' (refine And.intro ?_ ?_)) <;> intros <;> (repeat' (refine And.intro ?_ ?_)) <;> intros <;> (repeat' (refine And.intro ?_ ?_)) <;> intros
    all_goals first
      | omega
      | (rw [if_pos (by omega)] at hL; exact hL)
      | (rw [if_neg (by omega)] at hL; exact hL)
theorem R_wordHere (hT : ST σ) (f0 : 0 ≤ σ 89 32) (f1 : σ 89 32 ≤ σ 89 33) (f2 : σ 89 33 ≤ 200) (hk : Q (some (vI (wdH σ))) (mg g σ)) : Runs G mm_X10_wordHere [vR 89] (mg g σ) Q :=
  rn_X10_wordHere (L_wdh hT f0 f1 f2 6 0 (Int.le_refl 0) rfl hk)
end RD
