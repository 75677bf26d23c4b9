/-! the reference: the first packet, taken -/
theorem cpx_add {σ : Hp} {a d b s n p : Int} (n0 : 0 ≤ n) (p0 : 0 ≤ p) (h : b ≠ a ∨ d ≤ s) : cpx (cpx σ a d b s n) a (d + n) b (s + n) p = cpx σ a d b s (n + p) := by
  funext c j
  by_cases h1 : c = a ∧ d + n ≤ j ∧ j < d + n + p
  · obtain ⟨rfl, h2, h3⟩ := h1
    rw [cpx_in h2 h3, cpx_in (by omega) (by omega), show j - (d + n) + (s + n) = j - d + s by omega]
    rcases h with h | h
    · exact cpx_off h
    · exact cpx_out (by omega)
  · by_cases hc : c = a
    · subst hc
      rw [cpx_out (by omega)]
      by_cases h4 : d ≤ j ∧ j < d + n
      · rw [cpx_in h4.1 h4.2, cpx_in (by omega) (by omega)]
      · rw [cpx_out (by omega), cpx_out (by omega)]
    · rw [cpx_off hc, cpx_off hc, cpx_off hc]
theorem cpx_offr {σ : Hp} {a d b s n c : Int} (h : c ≠ a) : cpx σ a d b s n c = σ c := funext fun _ => cpx_off h
def fpk (σ : Hp) : Nat → Int
  | 0 => 0
  | n + 1 => if σ 109 (11 * ((n : Int) + 1) + 9) - σ 109 (11 * fpk σ n + 9) < 0 then (n : Int) + 1 else fpk σ n
theorem fpk_in {σ : Hp} : ∀ n : Nat, 0 ≤ fpk σ n ∧ fpk σ n ≤ n
  | 0 => ⟨Int.le_refl _, Int.le_refl _⟩
  | n + 1 => by
    have := fpk_in (σ := σ) n
    unfold fpk
    split <;> omega
def F_tk (f : Int) (σ : Hp) : Hp := cpx (wr (cpx σ 117 0 109 (11 * f) 11) 89 21 (σ 89 21 - 1)) 109 (11 * f) 109 (11 * f + 11) (11 * (σ 89 21 - 1 - f))
def F_dlv (σ : Hp) : Hp := if σ 94 (σ 117 0) = 1 then (if σ 117 1 = 0 then F_req (σ 117 0) (σ 117 2) (σ 117 3) σ else F_and (σ 117 0) (σ 117 2) (σ 117 1) σ) else σ
def F_nw (σ : Hp) : Hp := wr σ 89 19 (if σ 117 9 ≤ σ 89 19 then σ 89 19 else σ 117 9)
def F_dp0 (σ : Hp) (τ : Hp) : Hp := wr (wr (wr (wr τ 109 (11 * σ 89 21 + 9) (σ 89 19 + σ 108 (σ 117 0 / 2))) 109 (11 * σ 89 21 + 10) (σ 89 22)) 89 22 (σ 89 22 + 1)) 89 21 (σ 89 21 + 1)
def F_dup (σ : Hp) : Hp := F_dp0 σ (cpx σ 109 (11 * σ 89 21) 117 0 11)
def F_st2 (way : Int) (σ : Hp) : Hp := if way = 1 then wr σ 89 29 (σ 89 29 + 1) else if way = 2 then F_dlv (F_dup (F_nw σ)) else F_dlv (F_nw σ)
def fpi (σ : Hp) : Int := fpk σ (σ 89 21 - 1).toNat
def F_step (way : Int) (σ : Hp) : Hp := if ¬ (0 ≤ way ∧ way ≤ 2) then σ else if σ 89 21 = 0 then σ else F_st2 way (F_tk (fpi σ) σ)
def A_step (way : Int) (σ : Hp) : Int := if ¬ (0 ≤ way ∧ way ≤ 2) then -1002 else if σ 89 21 = 0 then -1003 else σ 109 (11 * fpi σ)
theorem tk_off {f a : Int} {σ : Hp} (h1 : a ≠ 89) (h2 : a ≠ 109) (h3 : a ≠ 117) : F_tk f σ a = σ a := by
  unfold F_tk
  rw [cpx_offr h2, wr_off h1, cpx_offr h3]
theorem tk_89 {f k : Int} {σ : Hp} (h : k ≠ 21) : F_tk f σ 89 k = σ 89 k := by
  unfold F_tk
  rw [cpx_off (by decide), wr_k h, cpx_off (by decide)]
theorem tk_21 {f : Int} {σ : Hp} : F_tk f σ 89 21 = σ 89 21 - 1 := by
  unfold F_tk
  rw [cpx_off (by decide), wr_e]
theorem tk_117 {f k : Int} {σ : Hp} (h0 : 0 ≤ k) (h1 : k < 11) : F_tk f σ 117 k = σ 109 (11 * f + k) := by
  unfold F_tk
  rw [cpx_off (by decide), wr_a (by decide), cpx_in h0 (by omega)]
  congr 1
  omega
theorem tk_i {f i k : Int} {σ : Hp} (k0 : 0 ≤ k) (k1 : k < 11) (h : i < f) : F_tk f σ 109 (11 * i + k) = σ 109 (11 * i + k) := by
  unfold F_tk
  rw [cpx_out (by omega), wr_a (by decide), cpx_off (by decide)]
theorem tk_j {f i k : Int} {σ : Hp} (k0 : 0 ≤ k) (k1 : k < 11) (h : f ≤ i) (h2 : i < σ 89 21 - 1) : F_tk f σ 109 (11 * i + k) = σ 109 (11 * (i + 1) + k) := by
  unfold F_tk
  rw [cpx_in (by omega) (by omega), wr_a (by decide), cpx_off (by decide)]
  congr 1
  omega
theorem st_tk {f : Int} {σ : Hp} (hT : ST σ) (f0 : 0 ≤ f) : ST (F_tk f σ) := by
  unfold F_tk
  exact st_cpx (st_wrS (st_cpx hT (by decide) (by decide) (Int.le_refl 0)) (by decide)) (by decide) (by decide) (by omega)
section R8
variable {G : GG} {b : Nat × Nat} {Q : Option VV → Hp → Prop} {g σ : Hp}
set_option maxHeartbeats 4000000 in
theorem L_fst {n m : Int} (hI : IV σ n m) (hk : Q (some (vI (fpi σ))) (mg g σ)) (hc : 1 ≤ σ 89 21) : ∀ (j i : Nat), (i : Int) + 1 + j = σ 89 21 → AW G mm_X10_firstPacket b 4 [(0, vR 89), (1, vI (fpk σ i)), (2, vI ((i : Int) + 1))] [] (mg g σ) Q := by
  have hT := hI.s
  have hN := hI.n
  obtain ⟨q1, q2, q3, q4, q5, q6, q7⟩ := hI.q
  intro j
  induction j with
  | zero =>
    intro i hi
    unfold fpi at hk
    rw [show (σ 89 21 - 1).toNat = i by omega] at hk
    refine sg_X10_firstPacket_4 ?_
    simp (disch := omega) only [mg_in, mg_wr, wr_a, hT, forall_eq, true_and, inI, Int.add_zero]
    (repeat' (refine And.intro ?_ ?_)) <;> intros <;> (repeat' (refine And.intro ?_ ?_)) <;> intros <;> (repeat' (refine And.intro ?_ ?_)) <;> intros <;> (repeat' (refine And.intro ?_ ?_)) <;> intros
    all_goals first | omega | exact hk
  | succ j ih =>
    intro i hi
    have ihk := ih (i + 1) (by omega)
    have e1 : fpk σ (i + 1) = if σ 109 (11 * ((i : Int) + 1) + 9) - σ 109 (11 * fpk σ i + 9) < 0 then (i : Int) + 1 else fpk σ i := rfl
    rw [e1, show ((i + 1 : Nat) : Int) = (i : Int) + 1 from rfl] at ihk
    have fi := fpk_in (σ := σ) i
    have p1 := (q6 (fpk σ i) fi.1 (by omega)).2.2.2.2.2.1
    have p2 := (q6 ((i : Int) + 1) (by omega) (by omega)).2.2.2.2.2.1
    have p3 := q7 (fpk σ i) ((i : Int) + 1) fi.1 (by omega) (by omega)
    refine sg_X10_firstPacket_4 ?_
    simp (disch := omega) only [mg_in, mg_wr, wr_a, hT, forall_eq, true_and, inI, Int.add_zero]
    (repeat' (refine And.intro ?_ ?_)) <;> intros <;> (repeat' (refine And.intro ?_ ?_)) <;> intros <;> (repeat' (refine And.intro ?_ ?_)) <;> intros <;> (repeat' (refine And.intro ?_ ?_)) <;> intros <;> (repeat' (refine And.intro ?_ ?_)) <;> intros <;> (repeat' (refine And.intro ?_ ?_)) <;> intros <;> (repeat' (refine And.intro ?_ ?_)) <;> intros <;> (repeat' (refine And.intro ?_ ?_)) <;> intros
    all_goals first
      | omega
      | (rw [if_pos (by omega)] at ihk; exact ihk)
      | (rw [if_neg (by omega)] at ihk; exact ihk)
theorem R_fst {n m : Int} (hI : IV σ n m) (hc : 1 ≤ σ 89 21) (hk : Q (some (vI (fpi σ))) (mg g σ)) : Runs G mm_X10_firstPacket [vR 89] (mg g σ) Q :=
  rn_X10_firstPacket (L_fst hI hk hc (σ 89 21 - 1).toNat 0 (by omega))
set_option maxHeartbeats 4000000 in
theorem L_cpy {fr to : Int} (hS : ST σ) (t0 : 0 ≤ to) (tf : to ≤ fr) (f1 : fr < 24) (hk : Q none (mg g (cpx σ 109 (11 * to) 109 (11 * fr) 11))) : ∀ (n : Nat) (i : Int), 0 ≤ i → i + n = 11 → AW G mm_X10_copyPacket b 2 [(0, vR 89), (1, vI fr), (2, vI to), (3, vI i)] [] (mg g (cpx σ 109 (11 * to) 109 (11 * fr) i)) Q := by
  intro n
  induction n with
  | zero =>
    intro i hi hn
    have hi2 : i = 11 := by omega
    subst hi2
    exact sg_X10_copyPacket_2 ⟨fun _ => hk, fun hc => absurd hc (by decide)⟩
  | succ n ih =>
    intro i hi hn
    have hT := st_cpx (a := 109) (dst := 11 * to) (b := 109) (src := 11 * fr) (n := i) hS (by decide) (by decide) (by omega)
    have ihk := ih (i + 1) (by omega) (by omega)
    rw [← cpx_s hi (by omega)] at ihk
    refine sg_X10_copyPacket_2 ⟨fun hc => absurd hc (by omega), fun _ => ?_⟩
    simp (disch := omega) only [mg_in, mg_wr, wr_a, hT, forall_eq, true_and, inI, Int.add_zero]
    (repeat' (refine And.intro ?_ ?_)) <;> intros <;> (repeat' (refine And.intro ?_ ?_)) <;> intros <;> (repeat' (refine And.intro ?_ ?_)) <;> intros <;> (repeat' (refine And.intro ?_ ?_)) <;> intros
    all_goals first | omega | exact ihk
theorem R_cpy {fr to : Int} (hT : ST σ) (t0 : 0 ≤ to) (tf : to ≤ fr) (f1 : fr < 24) (hk : Q none (mg g (cpx σ 109 (11 * to) 109 (11 * fr) 11))) : Runs G mm_X10_copyPacket [vR 89, vI fr, vI to] (mg g σ) Q := by
  have hL := L_cpy (G := G) (b := (0, 0)) (Q := Q) (g := g) hT t0 tf f1 hk 11 0 (Int.le_refl 0) rfl
  rw [cpx_0] at hL
  exact rn_X10_copyPacket hL
end R8
theorem dp0_off {σ τ : Hp} {a : Int} (h1 : a ≠ 89) (h2 : a ≠ 109) : F_dp0 σ τ a = τ a := by
  unfold F_dp0
  rw [wr_off h1, wr_off h1, wr_off h2, wr_off h2]
theorem dup_off {σ : Hp} {a : Int} (h1 : a ≠ 89) (h2 : a ≠ 109) : F_dup σ a = σ a := by
  unfold F_dup
  rw [dp0_off h1 h2, cpx_offr h2]
theorem dup_89 {σ : Hp} {k : Int} (h1 : k ≠ 21) (h2 : k ≠ 22) : F_dup σ 89 k = σ 89 k := by
  unfold F_dup F_dp0
  rw [wr_k h1, wr_k h2, wr_a (by decide), wr_a (by decide), cpx_off (by decide)]
theorem dup_21 {σ : Hp} : F_dup σ 89 21 = σ 89 21 + 1 := by
  unfold F_dup F_dp0
  rw [wr_e]
theorem dup_22 {σ : Hp} : F_dup σ 89 22 = σ 89 22 + 1 := by
  unfold F_dup F_dp0
  rw [wr_k (by decide), wr_e]
theorem dup_i {σ : Hp} {j : Int} (h : j < 11 * σ 89 21) : F_dup σ 109 j = σ 109 j := by
  unfold F_dup F_dp0
  rw [wr_a (by decide), wr_a (by decide), wr_k (by omega), wr_k (by omega), cpx_out (by omega)]
theorem dup_k {σ : Hp} {k : Int} (k0 : 0 ≤ k) (k1 : k < 9) : F_dup σ 109 (11 * σ 89 21 + k) = σ 117 k := by
  unfold F_dup F_dp0
  rw [wr_a (by decide), wr_a (by decide), wr_k (by omega), wr_k (by omega), cpx_in (by omega) (by omega)]
  congr 1
  omega
theorem dup_9 {σ : Hp} : F_dup σ 109 (11 * σ 89 21 + 9) = σ 89 19 + σ 108 (σ 117 0 / 2) := by
  unfold F_dup F_dp0
  rw [wr_a (by decide), wr_a (by decide), wr_k (by omega), wr_e]
theorem dup_10 {σ : Hp} : F_dup σ 109 (11 * σ 89 21 + 10) = σ 89 22 := by
  unfold F_dup F_dp0
  rw [wr_a (by decide), wr_a (by decide), wr_e]
theorem st_dup {σ : Hp} (hT : ST σ) (h0 : 0 ≤ σ 89 21) : ST (F_dup σ) := by
  unfold F_dup F_dp0
  exact st_wrS (st_wrS (st_wr (st_wr (st_cpx hT (by decide) (by decide) (by omega)) (by decide) (by decide) (by omega)) (by decide) (by decide) (by omega)) (by decide)) (by decide)
theorem st_nw {σ : Hp} (hT : ST σ) : ST (F_nw σ) := st_wrS hT (by decide)
theorem now_off {σ : Hp} {a : Int} (h : a ≠ 89) : F_nw σ a = σ a := wr_off h
theorem now_89 {σ : Hp} {k : Int} (h : k ≠ 19) : F_nw σ 89 k = σ 89 k := wr_k h
/-- what came, whole -/
def Ce (σ : Hp) (n : Int) : Prop := (0 ≤ σ 117 0 ∧ σ 117 0 ≤ 3) ∧ (0 ≤ σ 117 1 ∧ σ 117 1 ≤ 4) ∧ (0 ≤ σ 117 2 ∧ σ 117 2 ≤ n) ∧ (σ 117 1 = 0 → (0 ≤ σ 117 3 ∧ σ 117 3 ≤ 4) ∧ Co σ) ∧ (0 ≤ σ 117 8 ∧ σ 117 8 ≤ 9999) ∧ (0 ≤ σ 117 9 ∧ σ 117 9 ≤ 10 * n + 10)
theorem Ce_c {σ τ : Hp} {n : Int} (h : τ 117 = σ 117) (k : Ce σ n) : Ce τ n := by
  unfold Ce Co
  rw [h]
  exact k
theorem iv_tk {σ : Hp} {n m f : Int} (hI : IV σ n m) (f0 : 0 ≤ f) (f1 : f < σ 89 21) : IV (F_tk f σ) n m ∧ Ce (F_tk f σ) n := by
  have off : ∀ a, a ≠ 89 → a ≠ 109 → a ≠ 117 → F_tk f σ a = σ a := fun a => tk_off
  obtain ⟨q1, q2, q3, q4, q5, q6, q7⟩ := hI.q
  refine ⟨⟨st_tk hI.s f0, hI.n, Ic_c (off 90 (by decide) (by decide) (by decide)) hI.c, Ik_c (off 91 (by decide) (by decide) (by decide)) (off 92 (by decide) (by decide) (by decide)) (off 93 (by decide) (by decide) (by decide)) hI.k, Ie_c (off 94 (by decide) (by decide) (by decide)) (off 95 (by decide) (by decide) (by decide)) (off 96 (by decide) (by decide) (by decide)) (off 98 (by decide) (by decide) (by decide)) (off 99 (by decide) (by decide) (by decide)) (off 101 (by decide) (by decide) (by decide)) (off 102 (by decide) (by decide) (by decide)) (off 103 (by decide) (by decide) (by decide)) (off 104 (by decide) (by decide) (by decide)) (off 106 (by decide) (by decide) (by decide)) (off 107 (by decide) (by decide) (by decide)) hI.e, Iw_c (off 96 (by decide) (by decide) (by decide)) (off 97 (by decide) (by decide) (by decide)) hI.w, Ip_c (off 99 (by decide) (by decide) (by decide)) (off 100 (by decide) (by decide) (by decide)) hI.p, Ig_c (off 98 (by decide) (by decide) (by decide)) (off 104 (by decide) (by decide) (by decide)) (off 105 (by decide) (by decide) (by decide)) hI.g, Id_c (off 108 (by decide) (by decide) (by decide)) hI.d, ?_, It_c (off 96 (by decide) (by decide) (by decide)) (off 99 (by decide) (by decide) (by decide)) (off 111 (by decide) (by decide) (by decide)) (off 112 (by decide) (by decide) (by decide)) hI.t, Ix_c (tk_89 (by decide)) (off 114 (by decide) (by decide) (by decide)) hI.x⟩, ?_⟩
  · unfold Iq
    rw [tk_21, tk_89 (k := 19) (by decide), tk_89 (k := 22) (by decide), tk_89 (k := 28) (by decide), tk_89 (k := 29) (by decide)]
    refine ⟨by omega, q2, q3, q4, q5, fun i i0 i1 => ?_, fun i j i0 ij j1 => ?_⟩
    · unfold Pk
      rw [tk_89 (k := 22) (by decide)]
      have z : ∀ i : Int, 11 * i = 11 * i + 0 := fun i => by omega
      by_cases hi : i < f
      · have := q6 i i0 (by omega)
        unfold Pk at this
        rw [show F_tk f σ 109 (11 * i) = σ 109 (11 * i) by rw [z]; exact tk_i (by decide) (by decide) hi, tk_i (by decide) (by decide) hi, tk_i (by decide) (by decide) hi, tk_i (by decide) (by decide) hi, tk_i (by decide) (by decide) hi, tk_i (by decide) (by decide) hi, tk_i (by decide) (by decide) hi, tk_i (by decide) (by decide) hi, tk_i (by decide) (by decide) hi, tk_i (by decide) (by decide) hi, tk_i (by decide) (by decide) hi]
        exact this
      · have := q6 (i + 1) (by omega) (by omega)
        unfold Pk at this
        have hf : f ≤ i := by omega
        rw [show F_tk f σ 109 (11 * i) = σ 109 (11 * (i + 1)) by rw [z i, z (i + 1)]; exact tk_j (by decide) (by decide) hf i1, tk_j (by decide) (by decide) hf i1, tk_j (by decide) (by decide) hf i1, tk_j (by decide) (by decide) hf i1, tk_j (by decide) (by decide) hf i1, tk_j (by decide) (by decide) hf i1, tk_j (by decide) (by decide) hf i1, tk_j (by decide) (by decide) hf i1, tk_j (by decide) (by decide) hf i1, tk_j (by decide) (by decide) hf i1, tk_j (by decide) (by decide) hf i1]
        exact this
    · by_cases hj : j < f
      · rw [tk_i (by decide) (by decide) hj, tk_i (by decide) (by decide) (by omega)]
        exact q7 i j i0 ij (by omega)
      · rw [tk_j (i := j) (by decide) (by decide) (by omega) j1]
        by_cases hi : i < f
        · rw [tk_i (by decide) (by decide) hi]
          exact q7 i (j + 1) i0 (by omega) (by omega)
        · rw [tk_j (i := i) (by decide) (by decide) (by omega) (by omega)]
          exact q7 (i + 1) (j + 1) (by omega) (by omega) (by omega)
  · obtain ⟨p1, p2, p3, p4, p5, p6, p7⟩ := q6 f f0 f1
    unfold Ce Co
    rw [tk_117 (k := 0) (by decide) (by decide), tk_117 (k := 1) (by decide) (by decide), tk_117 (k := 2) (by decide) (by decide), tk_117 (k := 3) (by decide) (by decide), tk_117 (k := 4) (by decide) (by decide), tk_117 (k := 5) (by decide) (by decide), tk_117 (k := 6) (by decide) (by decide), tk_117 (k := 7) (by decide) (by decide), tk_117 (k := 8) (by decide) (by decide), tk_117 (k := 9) (by decide) (by decide), Int.add_zero]
    exact ⟨p1, p2, p3, p4, p5, p6⟩
theorem iv_nw {σ : Hp} {n m : Int} (hI : IV σ n m) (hC : Ce σ n) (hn : n ≤ 511) : IV (F_nw σ) (n + 1) m := by
  have hN := hI.n
  obtain ⟨-, -, -, -, -, c9⟩ := hC
  have q2 := hI.q.2.1
  have hI := hI.up (n' := n + 1) (m' := m) (by omega) (Int.le_refl m) (by omega) (by omega)
  have off : ∀ a, a ≠ 89 → F_nw σ a = σ a := fun a => now_off
  refine ⟨st_nw hI.s, hI.n, Ic_c (off 90 (by decide)) hI.c, Ik_c (off 91 (by decide)) (off 92 (by decide)) (off 93 (by decide)) hI.k, Ie_c (off 94 (by decide)) (off 95 (by decide)) (off 96 (by decide)) (off 98 (by decide)) (off 99 (by decide)) (off 101 (by decide)) (off 102 (by decide)) (off 103 (by decide)) (off 104 (by decide)) (off 106 (by decide)) (off 107 (by decide)) hI.e, Iw_c (off 96 (by decide)) (off 97 (by decide)) hI.w, Ip_c (off 99 (by decide)) (off 100 (by decide)) hI.p, Ig_c (off 98 (by decide)) (off 104 (by decide)) (off 105 (by decide)) hI.g, Id_c (off 108 (by decide)) hI.d, ?_, It_c (off 96 (by decide)) (off 99 (by decide)) (off 111 (by decide)) (off 112 (by decide)) hI.t, Ix_c (now_89 (by decide)) (off 114 (by decide)) hI.x⟩
  obtain ⟨q1, -, q3, q4, q5, q6, q7⟩ := hI.q
  unfold Iq Pk
  rw [now_89 (k := 21) (by decide), now_89 (k := 22) (by decide), now_89 (k := 28) (by decide), now_89 (k := 29) (by decide), off 109 (by decide)]
  refine ⟨q1, ?_, q3, q4, q5, q6, q7⟩
  unfold F_nw
  rw [wr_e]
  split <;> omega
theorem iv_dup {σ : Hp} {n m : Int} (hI : IV σ n m) (hC : Ce σ n) (hm : m ≤ 99999) (hs : σ 89 21 ≤ 23) : IV (F_dup σ) n (m + 1) := by
  have hN := hI.n
  obtain ⟨c0, c1, c2, c3, c8, c9⟩ := hC
  have hd := hI.d (σ 117 0 / 2) (by omega) (by omega)
  have q2 := hI.q.2.1
  have hQ : Iq σ n m := hI.q
  have hI := hI.up (n' := n) (m' := m + 1) (by omega) (by omega) (by omega) (by omega)
  have off : ∀ a, a ≠ 89 → a ≠ 109 → F_dup σ a = σ a := fun a => dup_off
  refine ⟨st_dup hI.s (by have := hI.q.1; omega), hI.n, Ic_c (off 90 (by decide) (by decide)) hI.c, Ik_c (off 91 (by decide) (by decide)) (off 92 (by decide) (by decide)) (off 93 (by decide) (by decide)) hI.k, Ie_c (off 94 (by decide) (by decide)) (off 95 (by decide) (by decide)) (off 96 (by decide) (by decide)) (off 98 (by decide) (by decide)) (off 99 (by decide) (by decide)) (off 101 (by decide) (by decide)) (off 102 (by decide) (by decide)) (off 103 (by decide) (by decide)) (off 104 (by decide) (by decide)) (off 106 (by decide) (by decide)) (off 107 (by decide) (by decide)) hI.e, Iw_c (off 96 (by decide) (by decide)) (off 97 (by decide) (by decide)) hI.w, Ip_c (off 99 (by decide) (by decide)) (off 100 (by decide) (by decide)) hI.p, Ig_c (off 98 (by decide) (by decide)) (off 104 (by decide) (by decide)) (off 105 (by decide) (by decide)) hI.g, Id_c (off 108 (by decide) (by decide)) hI.d, ?_, It_c (off 96 (by decide) (by decide)) (off 99 (by decide) (by decide)) (off 111 (by decide) (by decide)) (off 112 (by decide) (by decide)) hI.t, Ix_c (dup_89 (by decide) (by decide)) (off 114 (by decide) (by decide)) hI.x⟩
  obtain ⟨q1, -, q3, q4, q5, q6, q7⟩ := hQ
  unfold Iq
  rw [dup_21, dup_22, dup_89 (k := 19) (by decide) (by decide), dup_89 (k := 28) (by decide) (by decide), dup_89 (k := 29) (by decide) (by decide)]
  refine ⟨by omega, q2, by omega, q4, by omega, fun i i0 i1 => ?_, fun i j i0 ij j1 => ?_⟩
  · unfold Pk
    rw [dup_22]
    by_cases hi : i < σ 89 21
    · have := q6 i i0 hi
      unfold Pk at this
      rw [dup_i (by omega), dup_i (by omega), dup_i (by omega), dup_i (by omega), dup_i (by omega), dup_i (by omega), dup_i (by omega), dup_i (by omega), dup_i (by omega), dup_i (by omega), dup_i (by omega)]
      obtain ⟨p1, p2, p3, p4, p5, p6, p7⟩ := this
      exact ⟨p1, p2, p3, p4, p5, p6, by omega⟩
    · have hi2 : i = σ 89 21 := by omega
      subst hi2
      have z : F_dup σ 109 (11 * σ 89 21) = σ 117 0 := by rw [← dup_k (σ := σ) (k := 0) (by decide) (by decide), Int.add_zero]
      rw [z, dup_k (k := 1) (by decide) (by decide), dup_k (k := 2) (by decide) (by decide), dup_k (k := 3) (by decide) (by decide), dup_k (k := 4) (by decide) (by decide), dup_k (k := 5) (by decide) (by decide), dup_k (k := 6) (by decide) (by decide), dup_k (k := 7) (by decide) (by decide), dup_k (k := 8) (by decide) (by decide), dup_9, dup_10]
      exact ⟨c0, c1, c2, c3, c8, by omega, by omega⟩
  · by_cases hj : j < σ 89 21
    · rw [dup_i (by omega), dup_i (by omega)]
      exact q7 i j i0 ij hj
    · have hj2 : j = σ 89 21 := by omega
      subst hj2
      rw [dup_10, dup_i (by omega)]
      have := (q6 i i0 ij).2.2.2.2.2.2
      omega
theorem iv_dlv {σ : Hp} {n m : Int} (hI : IV σ n m) (hC : Ce σ (n - 1)) (hm : m ≤ 99990) (hd : σ 89 28 + 1 ≤ n) : IV (F_dlv σ) n (m + 4) := by
  have hN := hI.n
  obtain ⟨c0, c1, c2, c3, c8, c9⟩ := hC
  unfold F_dlv
  split
  · split
    · rename_i h
      exact (iv_req hI (c3 h).2 hm c0.1 (by omega) c2.1 (by omega) hd).up (by omega) (by omega) (by omega) (by omega)
    · exact iv_and hI hm c0.1 (by omega) c8
  · exact hI.up (by omega) (by omega) (by omega) (by omega)
theorem fpi_in {σ : Hp} (h : 1 ≤ σ 89 21) : 0 ≤ fpi σ ∧ fpi σ < σ 89 21 := by
  have := fpk_in (σ := σ) (σ 89 21 - 1).toNat
  unfold fpi
  omega
theorem iv_step {σ : Hp} {n m way : Int} (hI : IV σ n m) (hn : n ≤ 511) (hm : m ≤ 99900) : IV (F_step way σ) (n + 1) (m + 5) := by
  have hN := hI.n
  have hq := hI.q.1
  have hD := hI.q.2.2.2.1
  unfold F_step
  split
  · exact hI.up (by omega) (by omega) (by omega) (by omega)
  · split
    · exact hI.up (by omega) (by omega) (by omega) (by omega)
    · rename_i h
      have hf := fpi_in (σ := σ) (by omega)
      obtain ⟨hA, hC⟩ := iv_tk hI hf.1 hf.2
      have hW := iv_nw hA hC hn
      have hC2 : Ce (F_nw (F_tk (fpi σ) σ)) n := Ce_c (now_off (by decide)) hC
      have w28 : F_nw (F_tk (fpi σ) σ) 89 28 = σ 89 28 := by rw [now_89 (by decide), tk_89 (by decide)]
      have w21 : F_nw (F_tk (fpi σ) σ) 89 21 = σ 89 21 - 1 := by rw [now_89 (by decide), tk_21]
      unfold F_st2
      split
      · have hA := hA.up (n' := n + 1) (m' := m + 1) (by omega) (by omega) (by omega) (by omega)
        have hl := hI.q.2.2.2.2.1
        generalize hx : F_tk (fpi σ) σ = τ at hA
        have hl2 : τ 89 29 = σ 89 29 := by rw [← hx, tk_89 (by decide)]
        have hI := hA
        have off : ∀ a, a ≠ 89 → wr τ 89 29 (τ 89 29 + 1) a = τ a := fun a => wr_off
        refine IV.up (n := n + 1) (m := m + 1) ?_ (by omega) (by omega) (by omega) (by omega)
        refine ⟨st_wrS hI.s (by decide), hI.n, Ic_c (off 90 (by decide)) hI.c, Ik_c (off 91 (by decide)) (off 92 (by decide)) (off 93 (by decide)) hI.k, Ie_c (off 94 (by decide)) (off 95 (by decide)) (off 96 (by decide)) (off 98 (by decide)) (off 99 (by decide)) (off 101 (by decide)) (off 102 (by decide)) (off 103 (by decide)) (off 104 (by decide)) (off 106 (by decide)) (off 107 (by decide)) hI.e, Iw_c (off 96 (by decide)) (off 97 (by decide)) hI.w, Ip_c (off 99 (by decide)) (off 100 (by decide)) hI.p, Ig_c (off 98 (by decide)) (off 104 (by decide)) (off 105 (by decide)) hI.g, Id_c (off 108 (by decide)) hI.d, ?_, It_c (off 96 (by decide)) (off 99 (by decide)) (off 111 (by decide)) (off 112 (by decide)) hI.t, Ix_c (wr_k (by decide)) (off 114 (by decide)) hI.x⟩
        obtain ⟨q1, q2, q3, q4, q5, q6, q7⟩ := hI.q
        unfold Iq Pk
        rw [wr_k (j := 21) (by decide), wr_k (j := 19) (by decide), wr_k (j := 22) (by decide), wr_k (j := 28) (by decide), wr_e, off 109 (by decide)]
        exact ⟨q1, q2, q3, q4, by omega, q6, q7⟩
      · split
        · have hU := iv_dup hW (Ce_c rfl ⟨hC2.1, hC2.2.1, by have := hC2.2.2.1; omega, hC2.2.2.2.1, hC2.2.2.2.2.1, by have := hC2.2.2.2.2.2; omega⟩) (by omega) (by omega)
          have := iv_dlv hU (Ce_c (dup_off (by decide) (by decide)) (by rw [show n + 1 - 1 = n by omega]; exact hC2)) (by omega) (by rw [dup_89 (by decide) (by decide), w28]; omega)
          exact this.up (by omega) (by omega) (by omega) (by omega)
        · have := iv_dlv hW (by rw [show n + 1 - 1 = n by omega]; exact hC2) (by omega) (by rw [w28]; omega)
          exact this.up (by omega) (by omega) (by omega) (by omega)
