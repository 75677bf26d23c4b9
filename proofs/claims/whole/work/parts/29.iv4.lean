/-! answers keep the invariants; work posted -/
theorem iv_an2 {σ : Hp} {n m e ty : Int} (hI : IV σ n m) (hm : m ≤ 99990) (h0 : 0 ≤ e) (h1 : e < 4) (ho : ty = 2 ∨ 1 ≤ σ 96 e) (c8 : 0 ≤ σ 117 8 ∧ σ 117 8 ≤ 9999) : IV (F_an2 e ty σ) n (m + 4) := by
  have hE := hI.e e h0 h1
  have hN := hI.n
  unfold F_an2
  by_cases q1 : ty = 2
  · rw [if_pos q1]
    split
    · exact hI.up (by omega) (by omega) (by omega) (by omega)
    · exact iv_agn hI hm h0 h1 (by omega)
  · rw [if_neg q1]
    by_cases q2 : ty = 1
    · rw [if_pos q2]
      have hO := iv_old (r := 0) (v := σ 117 8) hI h0 h1 (by omega)
      have hW := hI.w e 0 h0 h1 (Int.le_refl 0) (by omega)
      rw [Int.mul_zero, Int.add_zero] at hW
      split
      · exact hO.up (by omega) (by omega) (by omega) (by omega)
      · exact (iv_cell hO (by omega) (by omega) c8.1 c8.2).up (by omega) (by omega) (by omega) (by omega)
    · rw [if_neg q2]
      by_cases q3 : ty = 3
      · rw [if_pos q3]
        by_cases q4 : σ 102 e + 1 = 4
        · rw [if_pos q4]
          have hz : F_old e 4 0 (wr σ 102 e (σ 102 e + 1)) = F_old e 4 0 σ := by
            funext c j
            unfold F_old F_tells T0 cpx wr
            by_cases hc : c = 102
            · subst hc
              by_cases hj : j = e
              · simp only [hj, and_self, if_true]
              · simp only [hj, and_false, if_false]
                simp (config := { decide := true }) only [false_and, if_false, and_false, hj]
            · simp (config := { decide := true }) only [hc, false_and, if_false]
          rw [hz]
          exact (iv_brk (iv_old hI h0 h1 (by omega)) h0 h1).up (by omega) (by omega) (by omega) (by omega)
        · rw [if_neg q4]
          exact (iv_e (a := 102) hI h0 h1 (by omega)).up (by omega) (by omega) (by omega) (by omega)
      · rw [if_neg q3]
        exact (iv_brk (iv_old hI h0 h1 (by omega)) h0 h1).up (by omega) (by omega) (by omega) (by omega)
theorem iv_ans {n m e r ty : Int} (hm : m ≤ 99990) (h0 : 0 ≤ e) (h1 : e < 4) : ∀ (k : Nat) (σ : Hp), IV σ n m → (ty = 2 ∨ ∃ i, 0 ≤ i ∧ i < σ 96 e ∧ σ 97 (28 * e + 7 * i) = r) → (0 ≤ σ 117 8 ∧ σ 117 8 ≤ 9999) → IV (F_ans k e r ty σ) n (m + 4) := by
  intro k
  induction k with
  | zero =>
    intro σ hI hx c8
    have hN := hI.n
    exact hI.up (by omega) (by omega) (by omega) (by omega)
  | succ k ih =>
    intro σ hI hx c8
    show IV (if 0 < σ 96 e ∧ σ 97 (28 * e) < r then (if σ 97 (28 * e + 1) ≤ 1 then F_ans k e r ty (F_old e 0 0 σ) else F_agn e σ) else F_an2 e ty σ) n (m + 4)
    have hE := hI.e e h0 h1
    have ho : ty = 2 ∨ 1 ≤ σ 96 e := hx.imp id (fun ⟨i, i0, i1, _⟩ => by omega)
    by_cases hz : 0 < σ 96 e ∧ σ 97 (28 * e) < r
    · rw [if_pos hz]
      split
      · refine ih _ (iv_old hI h0 h1 (by omega)) (hx.imp id (fun ⟨i, i0, i1, i2⟩ => ?_)) (by rw [old_off (by decide) (by decide) (by decide) (by decide) (by decide) (by decide)]; exact c8)
        have hi : i ≠ 0 := fun h => by
          subst h
          rw [Int.mul_zero, Int.add_zero] at i2
          omega
        refine ⟨i - 1, by omega, by rw [old_96]; omega, ?_⟩
        rw [old_97i (by omega) (by omega), show 28 * e + 7 * (i - 1) + 7 = 28 * e + 7 * i by omega]
        exact i2
      · exact iv_agn hI hm h0 h1 (by omega)
    · rw [if_neg hz]
      exact iv_an2 hI hm h0 h1 ho c8
theorem iv_and {σ : Hp} {n m e r ty : Int} (hI : IV σ n m) (hm : m ≤ 99990) (h0 : 0 ≤ e) (h1 : e < 4) (c8 : 0 ≤ σ 117 8 ∧ σ 117 8 ≤ 9999) : IV (F_and e r ty σ) n (m + 4) := by
  have hE := hI.e e h0 h1
  have hN := hI.n
  unfold F_and
  by_cases h2 : ty = 2
  · rw [if_pos h2]
    split
    · exact hI.up (by omega) (by omega) (by omega) (by omega)
    · exact iv_ans hm h0 h1 5 σ hI (Or.inl h2) c8
  · rw [if_neg h2]
    by_cases hc : opn e r σ (σ 96 e).toNat = 0
    · rw [if_pos hc]
      exact hI.up (by omega) (by omega) (by omega) (by omega)
    · rw [if_neg hc]
      obtain ⟨i, i0, i1, i2⟩ := opn_ex _ hc
      exact iv_ans hm h0 h1 5 σ hI (Or.inr ⟨i, i0, by omega, i2⟩) c8
theorem ps0_off {e k v w c a : Int} {σ : Hp} (h1 : a ≠ 97) (h2 : a ≠ 96) (h3 : a ≠ 95) : F_ps0 e k v w c σ a = σ a := by
  unfold F_ps0
  rw [wr_off h3, wr_off h2, wr_off h1, wr_off h1, wr_off h1, wr_off h1, wr_off h1, wr_off h1, wr_off h1]
theorem ps0_96 {e k v w c x : Int} {σ : Hp} : F_ps0 e k v w c σ 96 x = if x = e then σ 96 e + 1 else σ 96 x := by
  unfold F_ps0
  rw [wr_a (by decide), wr_v, wr_a (by decide), wr_a (by decide), wr_a (by decide), wr_a (by decide), wr_a (by decide), wr_a (by decide), wr_a (by decide)]
theorem ps0_95 {e k v w c x : Int} {σ : Hp} : F_ps0 e k v w c σ 95 x = if x = e then σ 95 e + 1 else σ 95 x := by
  unfold F_ps0
  rw [wr_v, wr_a (by decide), wr_a (by decide), wr_a (by decide), wr_a (by decide), wr_a (by decide), wr_a (by decide), wr_a (by decide), wr_a (by decide)]
theorem ps0_97o {e k v w c x : Int} {σ : Hp} (h : x < 7 * (4 * e + σ 96 e) ∨ 7 * (4 * e + σ 96 e) + 7 ≤ x) : F_ps0 e k v w c σ 97 x = σ 97 x := by
  unfold F_ps0
  rw [wr_a (by decide), wr_a (by decide), wr_k (by omega), wr_k (by omega), wr_k (by omega), wr_k (by omega), wr_k (by omega), wr_k (by omega), wr_k (by omega)]
theorem ps0_97 {e k v w c : Int} {σ : Hp} : F_ps0 e k v w c σ 97 (7 * (4 * e + σ 96 e)) = σ 95 e ∧ F_ps0 e k v w c σ 97 (7 * (4 * e + σ 96 e) + 1) = k ∧ F_ps0 e k v w c σ 97 (7 * (4 * e + σ 96 e) + 2) = σ 106 e ∧ F_ps0 e k v w c σ 97 (7 * (4 * e + σ 96 e) + 3) = σ 107 e ∧ F_ps0 e k v w c σ 97 (7 * (4 * e + σ 96 e) + 4) = v ∧ F_ps0 e k v w c σ 97 (7 * (4 * e + σ 96 e) + 5) = w ∧ F_ps0 e k v w c σ 97 (7 * (4 * e + σ 96 e) + 6) = c := by
  unfold F_ps0
  refine ⟨?_, ?_, ?_, ?_, ?_, ?_, ?_⟩ <;> rw [wr_a (by decide), wr_a (by decide)] <;> simp (disch := omega) only [wr_k, wr_e]
theorem st_ps0 {e k v w c : Int} {σ : Hp} (hT : ST σ) (h0 : 0 ≤ e) (ho : 0 ≤ σ 96 e) : ST (F_ps0 e k v w c σ) := by
  unfold F_ps0
  exact st_wr (st_wr (st_wr (st_wr (st_wr (st_wr (st_wr (st_wr (st_wr hT (by decide) (by decide) (by omega)) (by decide) (by decide) (by omega)) (by decide) (by decide) (by omega)) (by decide) (by decide) (by omega)) (by decide) (by decide) (by omega)) (by decide) (by decide) (by omega)) (by decide) (by decide) (by omega)) (by decide) (by decide) h0) (by decide) (by decide) h0
theorem iv_ps0 {σ : Hp} {n m e k v w c : Int} (hI : IV σ n m) (hn : n ≤ 511) (h0 : 0 ≤ e) (h1 : e < 4) (ho : σ 96 e < 4) (k0 : 0 ≤ k) (k1 : k ≤ 4) (v0 : 0 ≤ v) (v1 : v ≤ 9999) (w0 : 0 ≤ w) (w1 : w ≤ 9999) (c0 : 0 ≤ c) (c1 : c ≤ 11) : IV (F_ps0 e k v w c σ) (n + 1) m := by
  have hN := hI.n
  have hE := hI.e e h0 h1
  have hJ := hI.t
  have hI := hI.up (n' := n + 1) (m' := m) (by omega) (Int.le_refl m) (by omega) (by omega)
  have off : ∀ a, a ≠ 97 → a ≠ 96 → a ≠ 95 → F_ps0 e k v w c σ a = σ a := fun a => ps0_off
  refine ⟨st_ps0 hI.s h0 (by omega), hI.n, Ic_c (off 90 (by decide) (by decide) (by decide)) hI.c, Ik_c (off 91 (by decide) (by decide) (by decide)) (off 92 (by decide) (by decide) (by decide)) (off 93 (by decide) (by decide) (by decide)) hI.k, fun x x0 x1 => ?_, fun x i x0 x1 i0 i1 => ?_, Ip_c (off 99 (by decide) (by decide) (by decide)) (off 100 (by decide) (by decide) (by decide)) hI.p, Ig_c (off 98 (by decide) (by decide) (by decide)) (off 104 (by decide) (by decide) (by decide)) (off 105 (by decide) (by decide) (by decide)) hI.g, Id_c (off 108 (by decide) (by decide) (by decide)) hI.d, Iq_c (by rw [(off 89 (by decide) (by decide) (by decide))]) (by rw [(off 89 (by decide) (by decide) (by decide))]) (by rw [(off 89 (by decide) (by decide) (by decide))]) (by rw [(off 89 (by decide) (by decide) (by decide))]) (by rw [(off 89 (by decide) (by decide) (by decide))]) (off 109 (by decide) (by decide) (by decide)) hI.q, fun j j0 j1 => ?_, Ix_c (by rw [(off 89 (by decide) (by decide) (by decide))]) (off 114 (by decide) (by decide) (by decide)) hI.x⟩
  · have hx := hI.e x x0 x1
    rw [ps0_96, ps0_95, off 94 (by decide) (by decide) (by decide), off 98 (by decide) (by decide) (by decide), off 99 (by decide) (by decide) (by decide), off 101 (by decide) (by decide) (by decide), off 102 (by decide) (by decide) (by decide), off 103 (by decide) (by decide) (by decide), off 104 (by decide) (by decide) (by decide), off 106 (by decide) (by decide) (by decide), off 107 (by decide) (by decide) (by decide)]
    by_cases hq : x = e
    · subst hq
      rw [if_pos rfl, if_pos rfl]
      omega
    · rw [if_neg hq, if_neg hq]
      exact hx
  · rw [ps0_96] at i1
    have hx := hI.e x x0 x1
    by_cases hq : x = e ∧ i = σ 96 e
    · obtain ⟨rfl, rfl⟩ := hq
      obtain ⟨a0, a1, a2, a3, a4, a5, a6⟩ := ps0_97 (e := x) (k := k) (v := v) (w := w) (c := c) (σ := σ)
      rw [show 28 * x + 7 * σ 96 x = 7 * (4 * x + σ 96 x) by omega, a0, a1, a2, a3, a4, a5, a6]
      omega
    · have i2 : i < σ 96 x := by
        by_cases hq2 : x = e
        · rw [if_pos hq2] at i1
          subst hq2
          omega
        · rw [if_neg hq2] at i1
          exact i1
      have hne : x ≠ e ∨ i < σ 96 e := by
        by_cases hq2 : x = e
        · subst hq2
          exact Or.inr i2
        · exact Or.inl hq2
      have hw := hI.w x i x0 x1 i0 i2
      rw [ps0_97o (by omega), ps0_97o (by omega), ps0_97o (by omega), ps0_97o (by omega), ps0_97o (by omega), ps0_97o (by omega), ps0_97o (by omega)]
      exact hw
  · have hj := hJ j j0 j1
    rw [ps0_96, ps0_96, off 99 (by decide) (by decide) (by decide), off 111 (by decide) (by decide) (by decide), off 112 (by decide) (by decide) (by decide)]
    by_cases q1 : j = e
    · subst q1
      rw [if_pos rfl, if_neg (by omega)]
      omega
    · rw [if_neg q1]
      by_cases q2 : j + 2 = e
      · rw [if_pos q2, ← q2]
        omega
      · rw [if_neg q2]
        omega
theorem iv_pst {σ : Hp} {n m e k v w c : Int} (hI : IV σ n m) (hn : n ≤ 511) (hm : m ≤ 99990) (h0 : 0 ≤ e) (h1 : e < 4) (k0 : 0 ≤ k) (k1 : k ≤ 4) (v0 : 0 ≤ v) (v1 : v ≤ 9999) (w0 : 0 ≤ w) (w1 : w ≤ 9999) (c0 : 0 ≤ c) (c1 : c ≤ 11) : IV (F_pst e k v w c σ) (n + 1) (m + 1) := by
  have hN := hI.n
  have hE := hI.e e h0 h1
  unfold F_pst
  by_cases hp : psn e k σ = 0
  · rw [if_pos hp]
    have ho : σ 96 e < 4 := by
      unfold psn at hp
      by_cases q : σ 96 e = 4
      · (repeat' split at hp) <;> omega
      · omega
    exact iv_sw (iv_ps0 hI hn h0 h1 ho k0 k1 v0 v1 w0 w1 c0 c1) (by omega) h0 h1 (by omega) (by rw [ps0_96, if_pos rfl]; omega)
  · rw [if_neg hp]
    exact hI.up (by omega) (by omega) (by omega) (by omega)
section R7
variable {G : GG} {b : Nat × Nat} {Q : Option VV → Hp → Prop} {g σ : Hp}
set_option maxHeartbeats 8000000 in
theorem L_pst {e k v w c n m : Int} (hI : IV σ n m) (hm : m ≤ 99990) (h0 : 0 ≤ e) (h1 : e < 4) (h94 : σ 94 e = 1) (hk : Q (some (vI (A_pst e k σ))) (mg g (F_pst e k v w c σ))) : ∀ (j i : Nat), (i : Int) + j = σ 96 e → AW G mm_X10_post b 20 [(0, vR 89), (1, vI e), (2, vI k), (3, vI v), (4, vI w), (5, vI c), (6, vI (pc e σ i)), (7, vI (i : Int))] [] (mg g σ) Q := by
  have hT := hI.s
  have hN := hI.n
  have hE := hI.e e h0 h1
  intro j
  induction j with
  | zero =>
    intro i hi
    have hi2 : (σ 96 e).toNat = i := by omega
    have hpi := pc_in (e := e) (σ := σ) i
    by_cases hp : psn e k σ = 0
    · have hp2 := hp
      unfold psn at hp2
      unfold A_pst F_pst at hk
      rw [if_pos hp, if_pos hp] at hk
      have q1 : ¬ σ 96 e = 4 := fun q => by (repeat' split at hp2) <;> omega
      have q2 : ¬ (¬ k ≤ 1 ∧ pc e σ i = 2) := fun q => by
        rw [hi2, if_neg (not_not_intro h94), if_neg q1, if_pos q] at hp2
        omega
      have hP := st_ps0 (k := k) (v := v) (w := w) (c := c) hT h0 (by omega)
      have p96 : F_ps0 e k v w c σ 96 e = σ 96 e + 1 := by rw [ps0_96, if_pos rfl]
      have p95 : F_ps0 e k v w c σ 95 e = σ 95 e + 1 := by rw [ps0_95, if_pos rfl]
      have hR : Runs G mm_X10_sendsWork [vR 89, vI e, vI (σ 96 e)] (mg g (F_ps0 e k v w c σ)) (fun r h' => AW G mm_X10_post b 228 [(0, vR 89), (1, vI e)] (r.toList ++ []) h' Q) := by
        refine R_sw hP (SN_c (ps0_off (by decide) (by decide) (by decide)) (ps0_off (by decide) (by decide) (by decide)) hI.sn) h0 h1 (by omega) (by omega) ?_
        have hT := st_snd (e := e) (ty := 0) (nb := F_ps0 e k v w c σ 97 (7 * (4 * e + σ 96 e))) (vl := 0) (w := 7 * (4 * e + σ 96 e)) hP (by rw [ps0_off (by decide) (by decide) (by decide)]; exact hI.sn.1.1)
        refine sg_X10_post_228 ?_
        unfold F_sw at hk ⊢
        simp (disch := omega) only [mg_in, mg_wr, wr_a, hT, forall_eq, true_and, inI, Int.add_zero]
        rw [snd_off (a := 95) (by decide) (by decide), p95]
        rw [show σ 95 e + 1 - 1 = σ 95 e by omega]
        (repeat' (refine And.intro ?_ ?_)) <;> intros <;> (repeat' (refine And.intro ?_ ?_)) <;> intros <;> (repeat' (refine And.intro ?_ ?_)) <;> intros <;> (repeat' (refine And.intro ?_ ?_)) <;> intros
        all_goals first | omega | exact hk
      unfold F_ps0 at hR
      refine sg_X10_post_20 ?_
      simp (disch := omega) only [mg_in, mg_wr, wr_a, wr_e, wr_k, hT, forall_eq, true_and, inI, Int.add_zero]
      rw [show σ 96 e + 1 - 1 = σ 96 e by omega]
      (repeat' (refine And.intro ?_ ?_)) <;> intros <;> (repeat' (refine And.intro ?_ ?_)) <;> intros <;> (repeat' (refine And.intro ?_ ?_)) <;> intros <;> (repeat' (refine And.intro ?_ ?_)) <;> intros <;> (repeat' (refine And.intro ?_ ?_)) <;> intros <;> (repeat' (refine And.intro ?_ ?_)) <;> intros <;> (repeat' (refine And.intro ?_ ?_)) <;> intros <;> (repeat' (refine And.intro ?_ ?_)) <;> intros
      all_goals first | omega | exact hR
    · unfold A_pst F_pst at hk
      rw [if_neg hp, if_neg hp] at hk
      have hq : psn e k σ = -1004 ∧ (σ 96 e = 4 ∨ (¬ k ≤ 1 ∧ pc e σ i = 2)) := by
        unfold psn at hp ⊢
        rw [hi2, if_neg (not_not_intro h94)] at hp ⊢
        by_cases q : σ 96 e = 4
        · rw [if_pos q]
          exact ⟨rfl, Or.inl q⟩
        · rw [if_neg q] at hp ⊢
          by_cases q2 : ¬ k ≤ 1 ∧ pc e σ i = 2
          · rw [if_pos q2]
            exact ⟨rfl, Or.inr q2⟩
          · rw [if_neg q2] at hp
            exact absurd rfl hp
      rw [hq.1] at hk
      refine sg_X10_post_20 ?_
      simp (disch := omega) only [mg_in, mg_wr, wr_a, hT, forall_eq, true_and, inI, Int.add_zero]
      (repeat' (refine And.intro ?_ ?_)) <;> intros <;> (repeat' (refine And.intro ?_ ?_)) <;> intros <;> (repeat' (refine And.intro ?_ ?_)) <;> intros <;> (repeat' (refine And.intro ?_ ?_)) <;> intros <;> (repeat' (refine And.intro ?_ ?_)) <;> intros <;> (repeat' (refine And.intro ?_ ?_)) <;> intros <;> (repeat' (refine And.intro ?_ ?_)) <;> intros <;> (repeat' (refine And.intro ?_ ?_)) <;> intros
      all_goals first | omega | exact hk
  | succ j ih =>
    intro i hi
    have hpi := pc_in (e := e) (σ := σ) i
    have ihk := ih (i + 1) (by omega)
    have e1 : pc e σ (i + 1) = pc e σ i + (if σ 97 (28 * e + 7 * i + 1) ≤ 1 then 0 else 1) := rfl
    rw [e1, show ((i + 1 : Nat) : Int) = (i : Int) + 1 from rfl] at ihk
    refine sg_X10_post_20 ?_
    simp (disch := omega) only [mg_in, mg_wr, wr_a, hT, forall_eq, true_and, inI, Int.add_zero]
    rw [show 7 * (4 * e + (i : Int)) + 1 = 28 * e + 7 * i + 1 by omega]
    (repeat' (refine And.intro ?_ ?_)) <;> intros <;> (repeat' (refine And.intro ?_ ?_)) <;> intros <;> (repeat' (refine And.intro ?_ ?_)) <;> intros <;> (repeat' (refine And.intro ?_ ?_)) <;> intros <;> (repeat' (refine And.intro ?_ ?_)) <;> intros <;> (repeat' (refine And.intro ?_ ?_)) <;> intros <;> (repeat' (refine And.intro ?_ ?_)) <;> intros <;> (repeat' (refine And.intro ?_ ?_)) <;> intros
    all_goals first
      | omega
      | (rw [if_pos (by assumption)] at ihk; exact ihk)
      | (rw [if_pos (by assumption), Int.add_zero] at ihk; exact ihk)
      | (rw [if_neg (by assumption)] at ihk; exact ihk)
set_option maxHeartbeats 4000000 in
theorem R_pst {e k v w c n m : Int} (hI : IV σ n m) (hm : m ≤ 99990) (h0 : 0 ≤ e) (h1 : e < 4) (hk : Q (some (vI (A_pst e k σ))) (mg g (F_pst e k v w c σ))) : Runs G mm_X10_post [vR 89, vI e, vI k, vI v, vI w, vI c] (mg g σ) Q := by
  have hT := hI.s
  have hE := hI.e e h0 h1
  refine rn_X10_post ?_
  simp (disch := omega) only [mg_in, mg_wr, wr_a, hT, forall_eq, true_and, inI, Int.add_zero]
  by_cases h94 : σ 94 e = 1
  · have hL := L_pst (G := G) (b := (0, 0)) (Q := Q) (g := g) hI hm h0 h1 h94 hk (σ 96 e).toNat 0 (by omega)
    (repeat' (refine And.intro ?_ ?_)) <;> intros <;> (repeat' (refine And.intro ?_ ?_)) <;> intros <;> (repeat' (refine And.intro ?_ ?_)) <;> intros <;> (repeat' (refine And.intro ?_ ?_)) <;> intros
    all_goals first | omega | exact hL
  · have hp : psn e k σ = -1003 := by
      unfold psn
      rw [if_pos h94]
    unfold A_pst F_pst at hk
    rw [hp, if_neg (by decide), if_neg (by decide)] at hk
    (repeat' (refine And.intro ?_ ?_)) <;> intros <;> (repeat' (refine And.intro ?_ ?_)) <;> intros <;> (repeat' (refine And.intro ?_ ?_)) <;> intros <;> (repeat' (refine And.intro ?_ ?_)) <;> intros
    all_goals first | omega | exact hk
end R7
