/-! the class: what was told is taken; a line is joined -/
def F_tkn (j : Int) (σ : Hp) : Hp := wr (wr (cpx (wr σ 113 0 j) 113 1 110 (5 * (600 * j + σ 111 j)) 5) 111 j (σ 111 j + 1)) 89 27 1
theorem tkn_off {j a : Int} {σ : Hp} (h1 : a ≠ 113) (h2 : a ≠ 111) (h3 : a ≠ 89) : F_tkn j σ a = σ a := by
  unfold F_tkn
  rw [wr_off h3, wr_off h2, cpx_offr h1, wr_off h1]
theorem tkn_89 {j k : Int} {σ : Hp} (h : k ≠ 27) : F_tkn j σ 89 k = σ 89 k := by
  unfold F_tkn
  rw [wr_k h, wr_a (by decide), cpx_off (by decide), wr_a (by decide)]
theorem tkn_111 {j x : Int} {σ : Hp} : F_tkn j σ 111 x = if x = j then σ 111 j + 1 else σ 111 x := by
  unfold F_tkn
  rw [wr_a (by decide), wr_v, cpx_off (by decide), wr_a (by decide)]
theorem tkn_113 {j k : Int} {σ : Hp} (h0 : 0 ≤ k) (h1 : k < 5) : F_tkn j σ 113 (k + 1) = σ 110 (5 * (600 * j + σ 111 j) + k) := by
  unfold F_tkn
  rw [wr_a (by decide), wr_a (by decide), cpx_in (by omega) (by omega), wr_a (by decide)]
  congr 1
  omega
theorem tkn_0 {j : Int} {σ : Hp} : F_tkn j σ 113 0 = j := by
  unfold F_tkn
  rw [wr_a (by decide), wr_a (by decide), cpx_out (by omega), wr_e]
theorem tkn_27 {j : Int} {σ : Hp} : F_tkn j σ 89 27 = 1 := wr_e
section KC
variable {G : GG} {b : Nat × Nat} {Q : Option VV → Hp → Prop} {ρ σ h g : Hp} {n : Int}
set_option maxHeartbeats 4000000 in
theorem cr_take {j x : Int} (hC : CR ρ n σ h) (h0 : 0 ≤ j) (h1 : j < 2) (hz : ∀ x, 0 ≤ x → x < 2 → 0 ≤ σ 111 x ∧ σ 111 x ≤ σ 112 x ∧ σ 112 x < 600) (hE : ¬ σ 111 j = σ 112 j) (hx : x = h (35 + 7 * j) 2) (off : ∀ a, a ≠ 1 → a ≠ 35 + 7 * j → a ≠ x → g a = h a) (gx : ∀ k, k ≠ 5 → g x k = h x k) (g2 : g (35 + 7 * j) 2 = h x 5) (g3 : g (35 + 7 * j) 3 = if h x 5 = 0 then 0 else h (35 + 7 * j) 3) (g4 : g (35 + 7 * j) 4 = h (35 + 7 * j) 4 - 1) (g35 : ∀ k, k ≠ 2 → k ≠ 3 → k ≠ 4 → g (35 + 7 * j) k = h (35 + 7 * j) k) (g14 : g 1 4 = x) (g15 : g 1 5 = j) (g1 : ∀ k, k ≠ 4 → k ≠ 5 → g 1 k = h 1 k) : CR ρ n (F_tkn j σ) g := by
  obtain ⟨q1, A, q2, q3, q4, q5⟩ := hC.n j h0 h1
  have hj := hz j h0 h1
  have hb := hC.b
  rw [if_neg hE] at q4 q5
  obtain ⟨p1, p2, p3, p4, p5⟩ := q2 (σ 111 j) (by omega) (by omega)
  rw [← q4, ← hx] at p1 p2 p3 p4 p5
  have D5 : ∀ y, 0 ≤ y → y < 2 → g (35 + 7 * y) 5 = h (35 + 7 * y) 5 := fun y y0 y1 => (Decidable.em (y = j)).elim (fun q => by rw [q]; exact g35 5 (by decide) (by decide) (by decide)) (fun q => by rw [off _ (by omega) (by omega) (by omega)])
  refine ⟨?_, ?_, ?_, ?_, ?_, ?_, ?_, ?_, ?_, ?_, ?_, ?_, ?_, ?_⟩
  · exact CO_c (by intros; exact off _ (by omega) (by omega) (by omega)) (by intros; exact off _ (by omega) (by omega) (by omega)) (by intros; exact off _ (by omega) (by omega) (by omega)) (by intros; rw [off _ (by omega) (by omega) (by omega)]) hC.o
  · refine CT_of hC.T (fun b y b1 b2 hb => ?_)
    by_cases e1 : b = 1
    · subst e1
      exact g1 y (by unfold Fx at hb; omega) (by unfold Fx at hb; omega)
    · by_cases e2 : b = 35 + 7 * j
      · rw [e2]
        exact g35 y (by unfold Fx at hb; omega) (by unfold Fx at hb; omega) (by unfold Fx at hb; omega)
      · rw [off b e1 e2 (by omega)]
  · exact CB_c (by omega) (by intros; rw [off _ (by omega) (by omega) (by omega)]) (tkn_off (by decide) (by decide) (by decide)) (tkn_off (by decide) (by decide) (by decide)) hC.b
  · exact Cc_c (by intros; exact off _ (by omega) (by omega) (by omega)) (tkn_off (by decide) (by decide) (by decide)) hC.c
  · exact Ck_c (by intros; exact off _ (by omega) (by omega) (by omega)) (tkn_off (by decide) (by decide) (by decide)) (tkn_off (by decide) (by decide) (by decide)) (tkn_off (by decide) (by decide) (by decide)) hC.k
  · exact CE_c (by intros; exact off _ (by omega) (by omega) (by omega)) (by intros; exact off _ (by omega) (by omega) (by omega)) (tkn_off (by decide) (by decide) (by decide)) (tkn_off (by decide) (by decide) (by decide)) (tkn_off (by decide) (by decide) (by decide)) (tkn_off (by decide) (by decide) (by decide)) (tkn_off (by decide) (by decide) (by decide)) (tkn_off (by decide) (by decide) (by decide)) (tkn_off (by decide) (by decide) (by decide)) (tkn_off (by decide) (by decide) (by decide)) (tkn_off (by decide) (by decide) (by decide)) (tkn_off (by decide) (by decide) (by decide)) (tkn_off (by decide) (by decide) (by decide)) hC.e
  · exact Cw_c (by intros; exact off _ (by omega) (by omega) (by omega)) (by intros; exact off _ (by omega) (by omega) (by omega)) (tkn_off (by decide) (by decide) (by decide)) (tkn_off (by decide) (by decide) (by decide)) hC.w
  · exact Cr_c (by intros; exact off _ (by omega) (by omega) (by omega)) (tkn_off (by decide) (by decide) (by decide)) (tkn_off (by decide) (by decide) (by decide)) hC.r
  · exact Cg_c (by intros; exact off _ (by omega) (by omega) (by omega)) (by intros; exact off _ (by omega) (by omega) (by omega)) (tkn_off (by decide) (by decide) (by decide)) (tkn_off (by decide) (by decide) (by decide)) hC.g
  · exact Cp_c (by intros; rw [off _ (by omega) (by omega) (by omega)]) (by intros; rw [off _ (by omega) (by omega) (by omega)]) (by intros; rw [off _ (by omega) (by omega) (by omega)]) (by intros; exact off _ (by omega) (by omega) (by omega)) (by intros; exact off _ (by omega) (by omega) (by omega)) (by intros; exact off _ (by omega) (by omega) (by omega)) (tkn_89 (by decide)) (tkn_89 (by decide)) (tkn_89 (by decide)) (tkn_off (by decide) (by decide) (by decide)) (tkn_off (by decide) (by decide) (by decide)) hC.p
  · exact Cd_c (D5 0 (by decide) (by decide)) (D5 1 (by decide) (by decide)) (tkn_89 (by decide)) hC.d
  · intro y y0 y1
    by_cases hy : y = j
    · subst hy
      rw [tkn_111, if_pos rfl, tkn_off (by decide) (by decide) (by decide)]
      refine ⟨by rw [g4, q1]; omega, A, ?_⟩
      rw [Ch, tkn_111, if_pos rfl, tkn_off (by decide) (by decide) (by decide), tkn_off (by decide) (by decide) (by decide)]
      refine ⟨fun i i0 i1 => ?_, fun i i' i0 i1 i2 => q3 i i' (by omega) i1 i2, ?_, ?_⟩
      · obtain ⟨r1, r2, r3, r4, r5⟩ := q2 i (by omega) i1
        have hl := q3 (σ 111 y) i (by omega) (by omega) i1
        rw [← q4, ← hx] at hl
        rw [off (A i) (by omega) (by omega) (by omega), off 0 (by omega) (by omega) (by omega)]
        exact ⟨r1, r2, r3, r4, r5⟩
      · rw [g2, p5]
      · rw [g3, p5]
        by_cases hl : σ 111 y + 1 = σ 112 y
        · rw [if_pos hl, if_pos rfl, if_pos hl]
        · obtain ⟨r1, -⟩ := q2 (σ 111 y + 1) (by omega) (by omega)
          rw [if_neg hl, if_neg (by omega), q5, if_neg hl]
    · obtain ⟨u1, B, u2, u3, u4, u5⟩ := hC.n y y0 y1
      rw [tkn_111, if_neg hy, tkn_off (by decide) (by decide) (by decide)]
      have r35 : g (35 + 7 * y) = h (35 + 7 * y) := off _ (by omega) (by omega) (by omega)
      rw [r35]
      refine ⟨u1, B, ?_⟩
      rw [Ch, tkn_111, if_neg hy, tkn_off (by decide) (by decide) (by decide), tkn_off (by decide) (by decide) (by decide), r35]
      refine ⟨fun i i0 i1 => ?_, u3, u4, u5⟩
      obtain ⟨r1, r2, r3, r4, r5⟩ := u2 i i0 i1
      have hne : B i ≠ x := fun q => by rw [q] at r3; omega
      rw [off (B i) (by omega) (by omega) hne, off 0 (by omega) (by omega) (by omega)]
      exact ⟨r1, r2, r3, r4, r5⟩
  · refine ⟨fun q => by rw [tkn_27] at q; omega, fun _ => ?_⟩
    rw [g14, g15, tkn_0, off 0 (by omega) (by omega) (by omega)]
    refine ⟨p1, by rw [gx _ (by decide)]; exact p2, rfl, fun k k0 k1 => ?_⟩
    rw [gx k (by omega), tkn_113 k0 k1]
    exact p4 k k0 k1
  · exact Cx_c (by intros; rw [off _ (by omega) (by omega) (by omega)]) (by intros; exact off _ (by omega) (by omega) (by omega)) (tkn_89 (by decide)) (tkn_off (by decide) (by decide) (by decide)) hC.x
set_option maxHeartbeats 4000000 in
theorem K_take {j m m' : Int} (hC : CR ρ n σ h) (hI : IV σ m m') (hk : PQ ρ n Q (M_take j σ)) : Runs G mm_X9_take [vR 1, vI j] h Q := by
  have hT := hC.T
  have hN := hI.n
  refine rn_X9_take ⟨fun q => ?_, fun q => ?_⟩
  · have hz := hz_of hI
    have hj := hz j (by omega) (by omega)
    have hb := hC.b
    obtain ⟨q1, A, q2, q3, q4, q5⟩ := hC.n j (by omega) (by omega)
    have hs := (hT.2.2.2.2.2.2.1 j (by omega) (by omega)).2.1
    simp (disch := omega) only [hT, true_and]
    refine ⟨by omega, by omega, ?_⟩
    refine rn_X2_pullNotice ?_
    rw [hs, q1]
    by_cases hE : σ 111 j = σ 112 j
    · rw [if_pos hE] at q4
      simp (disch := omega) only [M_take, if_pos, if_neg] at hk
      rw [q4]
      refine ⟨rfl, fun z => absurd rfl z, fun _ => sg_X9_take_20 ⟨fun z => absurd rfl z, fun _ => PQ.k hk hC⟩⟩
    · rw [if_neg hE] at q4 q5
      obtain ⟨p1, p2, p3, p4, p5⟩ := q2 (σ 111 j) (by omega) (by omega)
      have hk2 : PQ ρ n Q (σ 110 (5 * (600 * j + σ 111 j) + 3), F_tkn j σ) := by
        simp (disch := omega) only [M_take, if_pos, if_neg] at hk
        exact hk
      have p43 := p4 3 (by decide) (by decide)
      rw [← q4] at p1 p2 p3 p5 p43
      refine ⟨rfl, fun _ => ⟨p2, ?_⟩, fun z => by omega⟩
      simp only [forall_eq]
      refine ⟨fun z => ⟨by unfold inI; omega, ?_⟩, fun z => ⟨by unfold inI; omega, ?_⟩⟩
      · refine sg_X9_take_20 ⟨fun _ => ?_, fun z => by omega⟩
        simp only [forall_eq]
        rw [wr_s (by decide), wr_s (by decide), wr_s (by decide), wr_s (by decide), wr_s (by decide), wr_s (by decide)]
        refine ⟨hT.1.1, p2, ?_⟩
        rw [wr_a (by omega), wr_k (by decide), wr_a (by omega), p43]
        refine PQ.k hk2 ?_
        refine cr_take (x := h (35 + 7 * j) 2) hC (by omega) (by omega) hz hE rfl (fun a a1 a2 a3 => ?_) (fun k k1 => ?_) ?_ ?_ ?_ (fun k k1 k2 k3 => ?_) ?_ ?_ (fun k k1 k2 => ?_)
        · simp only [wr_off a1, wr_off a2, wr_off a3]
        · simp (disch := omega) only [wr_a, wr_k]
        · simp (disch := omega) only [wr_a, wr_k, wr_e]
        · simp (disch := omega) only [wr_a, wr_k, wr_e, if_neg]
        · simp (disch := omega) only [wr_a, wr_k, wr_e, q1]
        · simp (disch := omega) only [wr_a, wr_k]
        · simp (disch := omega) only [wr_a, wr_k, wr_e]
        · simp (disch := omega) only [wr_a, wr_k, wr_e]
        · simp (disch := omega) only [wr_a, wr_k]
      · refine sg_X9_take_20 ⟨fun _ => ?_, fun z => by omega⟩
        simp only [forall_eq]
        rw [wr_s (by decide), wr_s (by decide), wr_s (by decide), wr_s (by decide), wr_s (by decide), wr_s (by decide), wr_s (by decide), wr_s (by decide)]
        refine ⟨hT.1.1, p2, ?_⟩
        rw [wr_a (by omega), wr_k (by decide), wr_a (by omega), wr_a (by omega), p43]
        refine PQ.k hk2 ?_
        refine cr_take (x := h (35 + 7 * j) 2) hC (by omega) (by omega) hz hE rfl (fun a a1 a2 a3 => ?_) (fun k k1 => ?_) ?_ ?_ ?_ (fun k k1 k2 k3 => ?_) ?_ ?_ (fun k k1 k2 => ?_)
        · simp only [wr_off a1, wr_off a2, wr_off a3]
        · simp (disch := omega) only [wr_a, wr_k]
        · simp (disch := omega) only [wr_a, wr_k, wr_e]
        · simp (disch := omega) only [wr_a, wr_k, wr_e, if_pos]
        · simp (disch := omega) only [wr_a, wr_k, wr_e, q1]
        · simp (disch := omega) only [wr_a, wr_k]
        · simp (disch := omega) only [wr_a, wr_k, wr_e]
        · simp (disch := omega) only [wr_a, wr_k, wr_e]
        · simp (disch := omega) only [wr_a, wr_k]
  · simp (disch := omega) only [M_take, if_pos, if_neg] at hk
    exact PQ.k hk hC
theorem K_restart {e s : Int} (hC : CR ρ n σ h) (hz : ∀ x, 0 ≤ x → x < 4 → 0 ≤ σ 99 x ∧ σ 99 x ≤ 3) (h0 : 0 ≤ e) (h1 : e < 4) (hk : ∀ g, CR ρ n (F_anew e s σ) g → Q none g) : Runs G mm_X1_restart [vR (49 + 10 * e), vI s] h Q := by
  have hT := hC.T
  refine rn_X1_restart ?_
  simp (disch := omega) only [hT, true_and, forall_eq]
  refine hk _ (cr_anew hC h0 h1 hz (fun a a1 a2 => ?_) ?_ ?_ ?_ ?_ ?_ ?_ ?_ ?_ (fun x hx => ?_) ?_ (fun x hx => ?_))
  · simp only [wr_off a1, wr_off a2]
  all_goals simp (disch := omega) only [wr_a, wr_k, wr_e]
theorem K_hasReady {l : Int} (hC : CR ρ n σ h) (h0 : 0 ≤ l) (h1 : l < 2) (hk : Q (some (vI (b2i (σ 94 (2 * l) = 1 ∨ σ 94 (2 * l + 1) = 1)))) h) : Runs G mm_X9_hasReadyEnd [vR 1, vI l] h Q := by
  have hT := hC.T
  have hE := hC.e
  refine rn_X9_hasReadyEnd ⟨hT.1.1, ?_⟩
  rw [hT.1.2.2.1]
  refine rn_X9_firstEndOf ⟨by unfold inI; omega, ?_⟩
  rw [show l * 2 = 2 * l by omega]
  refine sg_X9_hasReadyEnd_8 ?_
  simp (disch := omega) only [hT, hE, true_and]
  refine ⟨by omega, by omega, fun q => ?_, fun q => ?_⟩
  · rw [b2i_t (Or.inl q)] at hk
    exact hk
  · refine rn_X9_firstEndOf ⟨by unfold inI; omega, ?_⟩
    rw [show l * 2 = 2 * l by omega]
    refine sg_X9_hasReadyEnd_24 ?_
    refine K_other (by omega) (by omega) ?_
    rw [ixor1 (by omega) (by omega), if_pos (by omega)]
    refine sg_X9_hasReadyEnd_27 ?_
    simp (disch := omega) only [hT, hE, true_and]
    refine ⟨by omega, by omega, fun q2 => ?_, fun q2 => ?_⟩
    · rw [b2i_f (by omega)] at hk
      exact hk
    · rw [b2i_t (Or.inr q2)] at hk
      exact hk
/-- the packets that count are the same -/
theorem cr_pk {τ : Hp} (hC : CR ρ n σ h) (a1 : ∀ a, a ≠ 89 → a ≠ 109 → τ a = σ a) (a2 : ∀ k, τ 89 k = σ 89 k) (a3 : ∀ i t, 0 ≤ i → i < σ 89 21 → 0 ≤ t → t < 11 → τ 109 (11 * i + t) = σ 109 (11 * i + t)) : CR ρ n τ h := by
  have f : ∀ a, a ≠ 109 → τ a = σ a := fun a h1 => (Decidable.em (a = 89)).elim (fun q => by rw [q]; exact funext a2) (fun q => a1 a q h1)
  refine ⟨hC.o, hC.T, CB_c (Int.le_refl _) rfl (f _ (by decide)) (f _ (by decide)) hC.b, Cc_c (fun _ _ _ => rfl) (f _ (by decide)) hC.c, Ck_c (fun _ _ _ _ _ _ => rfl) (f _ (by decide)) (f _ (by decide)) (f _ (by decide)) hC.k, CE_c (fun _ _ _ => rfl) (fun _ _ _ => rfl) (f _ (by decide)) (f _ (by decide)) (f _ (by decide)) (f _ (by decide)) (f _ (by decide)) (f _ (by decide)) (f _ (by decide)) (f _ (by decide)) (f _ (by decide)) (f _ (by decide)) (f _ (by decide)) hC.e, Cw_c (fun _ _ _ => rfl) (fun _ _ _ _ => rfl) (f _ (by decide)) (f _ (by decide)) hC.w, Cr_c (fun _ _ _ => rfl) (f _ (by decide)) (f _ (by decide)) hC.r, Cg_c (fun _ _ _ => rfl) (fun _ _ _ => rfl) (f _ (by decide)) (f _ (by decide)) hC.g, ?_, Cd_c rfl rfl (a2 _) hC.d, Cn_c (fun _ _ _ => rfl) (fun _ _ _ => rfl) (fun _ _ _ => rfl) (fun _ _ _ => rfl) (Int.le_refl _) (f _ (by decide)) (f _ (by decide)) (f _ (by decide)) hC.n, Cl_c rfl rfl (fun _ _ _ _ _ => rfl) (Int.le_refl _) (a2 _) (f _ (by decide)) hC.l, Cx_c rfl rfl (a2 _) (f _ (by decide)) hC.x⟩
  obtain ⟨b1, b2, b3, b4, b5, b6⟩ := hC.p
  rw [Cp, a2, a2, a2, f 108 (by decide)]
  refine ⟨b1, b2, b3, b4, b5, fun i i0 i1 => ?_⟩
  have P := b6 i i0 i1
  have z := fun t t0 t1 => a3 i t i0 i1 t0 t1
  have z0 := z 0 (by decide) (by decide)
  rw [Int.add_zero] at z0
  rw [PC, z0, z 1 (by decide) (by decide), z 2 (by decide) (by decide), z 3 (by decide) (by decide), z 4 (by decide) (by decide), z 5 (by decide) (by decide), z 6 (by decide) (by decide), z 7 (by decide) (by decide), z 8 (by decide) (by decide), z 9 (by decide) (by decide)]
  exact P
set_option maxHeartbeats 4000000 in
theorem Lk_clear {l m m' : Int} (hI : IV σ m m') (hk : ∀ g, CR ρ n (F_fl l σ) g → Q none g) : ∀ (i : Nat) (τ h : Hp), CR ρ n τ h → (i : Int) ≤ σ 89 21 → (∀ a, a ≠ 89 → a ≠ 109 → τ a = σ a) → (∀ k, k ≠ 21 → τ 89 k = σ 89 k) → τ 89 21 = i + (cn l σ (σ 89 21).toNat - cn l σ i) → (∀ x t, 0 ≤ t → t < 11 → 0 ≤ x → x < i → τ 109 (11 * x + t) = σ 109 (11 * x + t)) → (∀ x : Nat, i ≤ x → x < (σ 89 21).toNat → ¬ σ 109 (11 * (x : Int)) / 2 = l → ∀ t, 0 ≤ t → t < 11 → τ 109 (11 * (i + cn l σ x - cn l σ i) + t) = σ 109 (11 * (x : Int) + t)) → AW G mm_X7_clearLine b 7 [(0, vR 4), (1, vI l), (2, vI ((i : Int) - 1))] [] h Q := by
  obtain ⟨⟨u0, u1⟩, -, -, -, -, qp, -⟩ := hI.q
  intro i
  induction i with
  | zero =>
    intro τ h hC hi a1 a2 a3 a4 a5
    refine sg_X7_clearLine_7 ⟨fun _ => hk h ?_, fun q => by omega⟩
    have c0 : cn l σ 0 = 0 := rfl
    rw [c0] at a3
    obtain ⟨f1, f2⟩ := fl_in (l := l) (σ := σ)
    refine cr_pk hC (fun a h1 h2 => ?_) (fun k => ?_) (fun j t j0 j1 t0 t1 => ?_)
    · rw [a1 a h1 h2]
      exact flt_off h1 h2 _ _ _ _
    · by_cases hk21 : k = 21
      · rw [hk21, f1, a3]
        omega
      · rw [a2 k hk21]
        exact flt_89 hk21 _ _ _ _
    · obtain ⟨x, x1, x2, x3⟩ := cn_sur (l := l) (σ := σ) (σ 89 21).toNat j j0 (by omega)
      have y := a5 x (by omega) x1 x2 t t0 t1
      rw [c0, show ((0 : Nat) : Int) + cn l σ x - 0 = j by omega] at y
      rw [y, ← x3, f2 x x1 x2 t t0 t1]
  | succ i ih =>
    intro τ h hC hi a1 a2 a3 a4 a5
    have hT := hC.T
    obtain ⟨⟨b1, b1', b1''⟩, b2, b3, b4, b5, b6⟩ := hC.p
    have cl := cn_le (l := l) (σ := σ) (show i + 1 ≤ (σ 89 21).toNat by omega)
    have ip := b4 i (by omega) (by omega)
    have ps := hT.2.2.2.2.2.2.2.2.2.1 _ ip.1 ip.2
    have P0 := (b6 i (by omega) (by omega)).1
    have a40 := a4 i 0 (by decide) (by decide) (by omega) (by omega)
    rw [Int.add_zero] at a40
    have pk := (qp i (by omega) (by omega)).1
    have cs1 := cn_s (l := l) (σ := σ) (n := i)
    refine sg_X7_clearLine_7 ?_
    simp (disch := omega) only [hT, true_and]
    rw [show (((i + 1 : Nat) : Int) - 1) = i by omega]
    refine ⟨fun q => by omega, fun _ => ⟨by omega, by omega, ps, ?_⟩⟩
    rw [P0, a40]
    refine rn_X9_lineOf ⟨pk.1, ?_⟩
    refine sg_X7_clearLine_23 ⟨fun q => ⟨by unfold inI; omega, ?_⟩, fun q => ⟨hT.2.2.2.1.1, ?_⟩⟩
    · rw [if_neg q] at cs1
      rw [show (i : Int) + -1 = i - 1 by omega]
      refine ih τ h hC (by omega) a1 a2 (by rw [a3]; omega) (fun x t t0 t1 x0 x1 => a4 x t t0 t1 x0 (by omega)) (fun x x0 x1 x2 t t0 t1 => ?_)
      by_cases hx : x = i
      · subst hx
        rw [show (x : Int) + cn l σ x - cn l σ x = x by omega]
        exact a4 x t t0 t1 (by omega) (by omega)
      · have y := a5 x (by omega) x1 x2 t t0 t1
        rw [show ((i + 1 : Nat) : Int) + cn l σ x - cn l σ (i + 1) = i + cn l σ x - cn l σ i by omega] at y
        exact y
    · rw [if_pos q] at cs1
      refine K_remAt (τ := cpx (wr τ 89 21 (τ 89 21 - 1)) 109 (11 * i) 109 (11 * i + 11) (11 * (τ 89 21 - 1 - i))) hC (by omega) (by omega) (fun a h1 h2 h3 => by rw [cpx_offr h2, wr_off h1]) (fun k k1 => by rw [cpx_off (by decide), wr_k k1]) (by rw [cpx_off (by decide), wr_e]) (fun x t t0 t1 x0 x1 => by rw [cpx_out (by omega), wr_a (by decide)]) (fun x t t0 t1 x0 x1 => by rw [cpx_in (by omega) (by omega), wr_a (by decide), show 11 * x + t - 11 * i + (11 * i + 11) = 11 * (x + 1) + t by omega]) (fun g hg => ?_)
      refine sg_X7_clearLine_32 ⟨by unfold inI; omega, ?_⟩
      rw [show (i : Int) + -1 = i - 1 by omega]
      refine ih _ g hg (by omega) (fun a h1 h2 => by rw [cpx_offr h2, wr_off h1]; exact a1 a h1 h2) (fun k k1 => by rw [cpx_off (by decide), wr_k k1]; exact a2 k k1) (by rw [cpx_off (by decide), wr_e, a3]; omega) (fun x t t0 t1 x0 x1 => by rw [cpx_out (by omega), wr_a (by decide)]; exact a4 x t t0 t1 x0 (by omega)) (fun x x0 x1 x2 t t0 t1 => ?_)
      have hxi : x ≠ i := fun z => by rw [z] at x2; exact x2 q
      have cx := cn_le (l := l) (σ := σ) (show i + 1 ≤ x by omega)
      have cu := cn_k (l := l) (σ := σ) x1 x2
      have y := a5 x (by omega) x1 x2 t t0 t1
      rw [cpx_in (by omega) (by omega), wr_a (by decide), ← y]
      congr 1
      omega
set_option maxHeartbeats 4000000 in
theorem K_clear {l m m' : Int} (hC : CR ρ n σ h) (hI : IV σ m m') (hk : ∀ g, CR ρ n (F_fl l σ) g → Q none g) : Runs G mm_X7_clearLine [vR 4, vI l] h Q := by
  have hT := hC.T
  obtain ⟨⟨b1, b1', b1''⟩, b2, -⟩ := hC.p
  refine rn_X7_clearLine ?_
  simp (disch := omega) only [hT, true_and, b1, inI]
  refine ⟨by omega, ?_⟩
  have L := Lk_clear (G := G) (b := (0, 0)) hI hk (σ 89 21).toNat σ h hC (by omega) (fun _ _ _ => rfl) (fun _ _ => rfl) (by omega) (fun _ _ _ _ _ _ => rfl) (fun x x0 x1 => by omega)
  rw [show (((σ 89 21).toNat : Nat) : Int) = σ 89 21 by omega] at L
  exact L
set_option maxHeartbeats 4000000 in
theorem K_joinLine {l m m' : Int} (hC : CR ρ n σ h) (hI : IV σ m m') (h0 : 0 ≤ l) (h1 : l < 2) (hk : ∀ g, CR ρ n (F_fl l (F_anew (2 * l + 1) 1 (F_anew (2 * l) 1 σ))) g → Q none g) : Runs G mm_X9_joinLine [vR 1, vI l] h Q := by
  have hT := hC.T
  have i1 := iv_anew (s := 1) hI (show 0 ≤ 2 * l by omega) (by decide) (by decide)
  have i2 := iv_anew (s := 1) i1 (show 0 ≤ 2 * l + 1 by omega) (by decide) (by decide)
  refine rn_X9_joinLine ⟨hT.1.1, ?_⟩
  rw [hT.1.2.2.1]
  refine rn_X9_firstEndOf ⟨by unfold inI; omega, ?_⟩
  rw [show l * 2 = 2 * l by omega]
  refine sg_X9_joinLine_8 ?_
  simp (disch := omega) only [hT, true_and]
  refine ⟨by omega, by omega, ?_⟩
  refine K_restart hC (hr_of hI) (by omega) (by omega) (fun g hg => ?_)
  have hT2 := hg.T
  refine sg_X9_joinLine_13 ⟨hT2.1.1, ?_⟩
  rw [hT2.1.2.2.1]
  refine rn_X9_firstEndOf ⟨by unfold inI; omega, ?_⟩
  rw [show l * 2 = 2 * l by omega]
  refine sg_X9_joinLine_21 ?_
  refine K_other (by omega) (by omega) ?_
  rw [ixor1 (by omega) (by omega), if_pos (by omega)]
  refine sg_X9_joinLine_24 ?_
  simp (disch := omega) only [hT2, true_and]
  refine ⟨by omega, by omega, ?_⟩
  refine K_restart hg (hr_of i1) (by omega) (by omega) (fun g2 hg2 => ?_)
  refine sg_X9_joinLine_29 ⟨hg2.T.1.1, ?_⟩
  rw [hg2.T.1.2.2.2.1]
  exact ⟨hg2.T.2.2.2.1.1, K_clear hg2 i2 (fun g3 hg3 => sg_X9_joinLine_37 (hk g3 hg3))⟩
theorem K_join {l m m' : Int} (hC : CR ρ n σ h) (hI : IV σ m m') (hk : PQ ρ n Q (M_join l σ)) : Runs G mm_X9_join [vR 1, vI l] h Q := by
  have hT := hC.T
  refine rn_X9_join ⟨fun q => ⟨hT.1.1, ?_⟩, fun q => ?_⟩
  · refine K_hasReady hC (by omega) (by omega) ?_
    unfold M_join F_joi at hk
    rw [if_neg (show ¬ ¬ (0 ≤ l ∧ l ≤ 1) by omega)] at hk
    by_cases hr : σ 94 (2 * l) = 1 ∨ σ 94 (2 * l + 1) = 1
    · rw [if_pos hr] at hk
      rw [b2i_t hr]
      exact sg_X9_join_16 ⟨fun z => absurd z (by decide), fun _ => PQ.k hk hC⟩
    · rw [if_neg hr, if_neg hr] at hk
      rw [b2i_f hr]
      refine sg_X9_join_16 ⟨fun _ => ⟨hT.1.1, K_joinLine hC hI (by omega) (by omega) (fun g hg => ?_)⟩, fun z => absurd rfl z⟩
      exact sg_X9_join_28 ⟨hg.T.1.1, K_ready hg (sg_X9_join_32 (PQ.k hk hg))⟩
  · unfold M_join at hk
    rw [if_pos (show ¬ (0 ≤ l ∧ l ≤ 1) by omega)] at hk
    exact PQ.k hk hC
end KC
