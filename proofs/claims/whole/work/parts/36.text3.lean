/-! the reference: a number read -/
def nmr (t : Int → Int) : Nat → Int → Int → Int
  | 0, _, v => v
  | n + 1, p, v => nmr t n (p + 1) (10 * v + t p - 48)
def nmH (σ : Hp) : Int := nmr (σ 114) (σ 89 33 - σ 89 32).toNat (σ 89 32) 0
def M_rd (k lo hi : Int) (σ : Hp) : Int × Hp := if σ 89 32 = σ 89 31 then (0, σ) else if ¬ (48 ≤ σ 114 (σ 89 32) ∧ σ 114 (σ 89 32) ≤ 57) then (0, σ) else if ¬ σ 89 33 - σ 89 32 ≤ 4 then (0, σ) else if ¬ (lo ≤ nmH σ ∧ nmH σ ≤ hi) then (0, σ) else (1, F_next (wr σ 115 k (nmH σ)))
/-- where the text is read -/
def Tx (σ : Hp) : Prop := (0 ≤ σ 89 32 ∧ σ 89 32 ≤ σ 89 33 ∧ σ 89 33 ≤ σ 89 31 ∧ σ 89 31 ≤ 200) ∧ ∀ i, 0 ≤ i → i < σ 89 31 → 0 ≤ σ 114 i ∧ σ 114 i ≤ 255
theorem next_off {σ : Hp} {a : Int} (h : a ≠ 89) : F_next σ a = σ a := by
  unfold F_next
  rw [wr_off h, wr_off h]
theorem next_89 {σ : Hp} {k : Int} (h1 : k ≠ 32) (h2 : k ≠ 33) : F_next σ 89 k = σ 89 k := by
  unfold F_next
  rw [wr_k h2, wr_k h1]
theorem next_32 {σ : Hp} : F_next σ 89 32 = tkF (σ 114) (σ 89 31) (σ 89 33) := by
  unfold F_next
  rw [wr_k (by decide), wr_e]
theorem next_33 {σ : Hp} : F_next σ 89 33 = tkB (σ 114) (σ 89 31) (tkF (σ 114) (σ 89 31) (σ 89 33)) := by
  unfold F_next
  rw [wr_e]
theorem st_next {σ : Hp} (hT : ST σ) : ST (F_next σ) := st_wrS (st_wrS hT (by decide)) (by decide)
theorem tkF_in {t : Int → Int} {L p : Int} (h : p ≤ L) : p ≤ tkF t L p ∧ tkF t L p ≤ L := skp_in _ _ (by omega)
theorem tkB_in {t : Int → Int} {L f : Int} (h : f ≤ L) : f ≤ tkB t L f ∧ tkB t L f ≤ L := by
  have h1 : f ≤ tk1 L f ∧ tk1 L f ≤ L := by
    unfold tk1
    split <;> omega
  have := rnk_in (t := t) (L := L) (s := tkS t L f) (d := tkD t L f) (L - tk1 L f).toNat (tk1 L f) (by omega)
  unfold tkB
  omega
theorem tx_next {σ : Hp} (h0 : 0 ≤ σ 89 33) (h1 : σ 89 33 ≤ σ 89 31) (h2 : σ 89 31 ≤ 200) (h3 : ∀ i, 0 ≤ i → i < σ 89 31 → 0 ≤ σ 114 i ∧ σ 114 i ≤ 255) : Tx (F_next σ) := by
  have a := tkF_in (t := σ 114) h1
  have c := tkB_in (t := σ 114) a.2
  unfold Tx
  rw [next_32, next_33, next_89 (k := 31) (by decide) (by decide), next_off (by decide)]
  exact ⟨by omega, h3⟩
section RE
variable {G : GG} {b : Nat × Nat} {Q : Option VV → Hp → Prop} {g σ : Hp}
set_option maxHeartbeats 4000000 in
theorem L_nmr {k lo hi : Int} (hT : ST σ) (hX : Tx σ) (k0 : 0 ≤ k) (k1 : k < 5) (h1 : ¬ (lo ≤ nmH σ ∧ nmH σ ≤ hi) → Q (some (vI 0)) (mg g σ)) (h2 : lo ≤ nmH σ ∧ nmH σ ≤ hi → Q (some (vI 1)) (mg g (F_next (wr σ 115 k (nmH σ))))) : ∀ (n : Nat) (p v : Int), 0 ≤ p → p + n = σ 89 33 → nmr (σ 114) n p v = nmH σ → n ≤ 4 → ((1 ≤ n → -28305 ≤ v ∧ v ≤ 28305) ∧ (2 ≤ n → -2805 ≤ v ∧ v ≤ 2805) ∧ (3 ≤ n → -255 ≤ v ∧ v ≤ 255) ∧ (4 ≤ n → v = 0)) → AW G mm_X10_reads b 50 [(0, vR 89), (1, vI k), (2, vI lo), (3, vI hi), (4, vI v), (5, vI p)] [] (mg g σ) Q := by
  obtain ⟨⟨x0, x1, x2, x3⟩, x4⟩ := id hX
  intro n
  induction n with
  | zero =>
    intro p v p0 hp hv hn hb
    have hv : v = nmH σ := hv
    subst hv
    have hR : lo ≤ nmH σ ∧ nmH σ ≤ hi → Runs G mm_X10_next [vR 89] (mg g (wr σ 115 k (nmH σ))) (fun r h' => AW G mm_X10_reads b 110 [] (r.toList ++ []) h' Q) := fun q => by
      have e : ∀ j, wr σ 115 k (nmH σ) 89 j = σ 89 j := fun j => wr_a (by decide)
      refine R_next (st_wr hT (by decide) (by decide) k0) (by rw [e]; omega) (by rw [e]; omega) (by rw [e]; omega) (by rw [e, e]; omega) ?_
      exact sg_X10_reads_110 (h2 q)
    refine sg_X10_reads_50 ?_
    simp (disch := omega) only [mg_in, mg_wr, wr_a, wr_e, wr_k, wr_ww, hT, forall_eq, true_and, inI, Int.add_zero]
    (repeat' (refine And.intro ?_ ?_)) <;> intros <;> (repeat' (refine And.intro ?_ ?_)) <;> intros <;> (repeat' (refine And.intro ?_ ?_)) <;> intros <;> (repeat' (refine And.intro ?_ ?_)) <;> intros <;> (repeat' (refine And.intro ?_ ?_)) <;> intros <;> (repeat' (refine And.intro ?_ ?_)) <;> intros <;> (repeat' (refine And.intro ?_ ?_)) <;> intros <;> (repeat' (refine And.intro ?_ ?_)) <;> intros
    all_goals first
      | omega
      | exact h1 (by assumption)
      | exact hR (by assumption)
  | succ n ih =>
    intro p v p0 hp hv hn hb
    have hc := x4 p p0 (by omega)
    have ihk := ih (p + 1) (10 * v + σ 114 p - 48) (by omega) (by omega) hv (by omega) (by omega)
    refine sg_X10_reads_50 ?_
    simp (disch := omega) only [mg_in, mg_wr, wr_a, wr_e, wr_k, wr_ww, hT, forall_eq, true_and, inI, Int.add_zero]
    (repeat' (refine And.intro ?_ ?_)) <;> intros <;> (repeat' (refine And.intro ?_ ?_)) <;> intros <;> (repeat' (refine And.intro ?_ ?_)) <;> intros <;> (repeat' (refine And.intro ?_ ?_)) <;> intros <;> (repeat' (refine And.intro ?_ ?_)) <;> intros <;> (repeat' (refine And.intro ?_ ?_)) <;> intros <;> (repeat' (refine And.intro ?_ ?_)) <;> intros <;> (repeat' (refine And.intro ?_ ?_)) <;> intros
    all_goals first | omega | exact ihk
set_option maxHeartbeats 4000000 in
theorem R_reads {k lo hi : Int} (hT : ST σ) (hX : Tx σ) (k0 : 0 ≤ k) (k1 : k < 5) (hk : Q (some (vI (M_rd k lo hi σ).1)) (mg g (M_rd k lo hi σ).2)) : Runs G mm_X10_reads [vR 89, vI k, vI lo, vI hi] (mg g σ) Q := by
  obtain ⟨⟨x0, x1, x2, x3⟩, x4⟩ := id hX
  unfold M_rd at hk
  refine rn_X10_reads ?_
  simp (disch := omega) only [mg_in, mg_wr, wr_a, wr_e, wr_k, wr_ww, hT, forall_eq, true_and, inI, Int.add_zero]
  by_cases c1 : σ 89 32 = σ 89 31
  · rw [if_pos c1] at hk
    (repeat' (refine And.intro ?_ ?_)) <;> intros <;> (repeat' (refine And.intro ?_ ?_)) <;> intros <;> (repeat' (refine And.intro ?_ ?_)) <;> intros <;> (repeat' (refine And.intro ?_ ?_)) <;> intros <;> (repeat' (refine And.intro ?_ ?_)) <;> intros <;> (repeat' (refine And.intro ?_ ?_)) <;> intros <;> (repeat' (refine And.intro ?_ ?_)) <;> intros <;> (repeat' (refine And.intro ?_ ?_)) <;> intros
    all_goals first | omega | exact hk
  · rw [if_neg c1] at hk
    by_cases c2 : 48 ≤ σ 114 (σ 89 32) ∧ σ 114 (σ 89 32) ≤ 57
    · rw [if_neg (not_not_intro c2)] at hk
      by_cases c3 : σ 89 33 - σ 89 32 ≤ 4
      · rw [if_neg (not_not_intro c3)] at hk
        have hL := L_nmr (G := G) (b := (0, 0)) (Q := Q) (g := g) (k := k) (lo := lo) (hi := hi) hT hX k0 k1 (fun h => by rw [if_pos h] at hk; exact hk) (fun h => by rw [if_neg (not_not_intro h)] at hk; exact hk) (σ 89 33 - σ 89 32).toNat (σ 89 32) 0 x0 (by omega) rfl (by omega) (by omega)
        (repeat' (refine And.intro ?_ ?_)) <;> intros <;> (repeat' (refine And.intro ?_ ?_)) <;> intros <;> (repeat' (refine And.intro ?_ ?_)) <;> intros <;> (repeat' (refine And.intro ?_ ?_)) <;> intros <;> (repeat' (refine And.intro ?_ ?_)) <;> intros <;> (repeat' (refine And.intro ?_ ?_)) <;> intros <;> (repeat' (refine And.intro ?_ ?_)) <;> intros <;> (repeat' (refine And.intro ?_ ?_)) <;> intros
        all_goals first | omega | exact hL
      · rw [if_pos c3] at hk
        (repeat' (refine And.intro ?_ ?_)) <;> intros <;> (repeat' (refine And.intro ?_ ?_)) <;> intros <;> (repeat' (refine And.intro ?_ ?_)) <;> intros <;> (repeat' (refine And.intro ?_ ?_)) <;> intros <;> (repeat' (refine And.intro ?_ ?_)) <;> intros <;> (repeat' (refine And.intro ?_ ?_)) <;> intros <;> (repeat' (refine And.intro ?_ ?_)) <;> intros <;> (repeat' (refine And.intro ?_ ?_)) <;> intros
        all_goals first | omega | exact hk
    · rw [if_pos c2] at hk
      (repeat' (refine And.intro ?_ ?_)) <;> intros <;> (repeat' (refine And.intro ?_ ?_)) <;> intros <;> (repeat' (refine And.intro ?_ ?_)) <;> intros <;> (repeat' (refine And.intro ?_ ?_)) <;> intros <;> (repeat' (refine And.intro ?_ ?_)) <;> intros <;> (repeat' (refine And.intro ?_ ?_)) <;> intros <;> (repeat' (refine And.intro ?_ ?_)) <;> intros <;> (repeat' (refine And.intro ?_ ?_)) <;> intros
      all_goals first | omega | exact hk
end RE
