/-! the class: a step -/
section K8
variable {G : GG} {b : Nat × Nat} {Q : Option VV → Hp → Prop} {ρ σ h : Hp} {n : Int}
theorem wr_same {h : Hp} {a k v : Int} (hv : v = h a k) : wr h a k v = h := by
  funext c j
  unfold wr
  split
  · rename_i q
    rw [q.1, q.2, hv]
  · rfl
theorem K_copy {x y : Int} (sx : h x (-1) = 6) (sy : h y (-1) = 6) (hxy : x ≠ y) (hk : ∀ g, (∀ a, a ≠ x → g a = h a) → (∀ k, k < 0 → g x k = h x k) → (∀ k, 0 ≤ k → k < 10 → g x k = h y k) → Q none g) : Runs G mm_X5_beCopyOf [vR x, vR y] h Q := by
  refine rn_X5_beCopyOf ⟨sy, sx, ?_⟩
  simp only [forall_eq]
  refine hk _ (fun a a1 => ?_) (fun k k1 => ?_) (fun k k0 k1 => ?_)
  · simp only [wr_off a1]
  · simp (disch := omega) only [wr_k]
  · rcases (show k = 0 ∨ k = 1 ∨ k = 2 ∨ k = 3 ∨ k = 4 ∨ k = 5 ∨ k = 6 ∨ k = 7 ∨ k = 8 ∨ k = 9 by omega) with rfl | rfl | rfl | rfl | rfl | rfl | rfl | rfl | rfl | rfl <;> simp (disch := omega) only [wr_k, wr_e, wr_a]
set_option maxHeartbeats 4000000 in
theorem K_pull {m m' : Int} (hC : CR ρ n σ h) (hI : IV σ m m') (hk0 : σ 89 21 = 0 → Q (some (vR 0)) h) (hk1 : ¬ σ 89 21 = 0 → ∀ ρ' g, (∀ a, a ≠ 6 → ρ' a = ρ a) → CR ρ' n (F_tk (fpi σ) σ) g → CM (F_tk (fpi σ) σ) ρ' → Q (some (vR 6)) g) : Runs G mm_X7_pullFirst [vR 4] h Q := by
  have hT := hC.T
  obtain ⟨⟨b1, b1', b1''⟩, b2, b3, b4, b5, b6⟩ := hC.p
  refine rn_X7_pullFirst ⟨hT.2.2.2.1.1, ?_⟩
  refine K_first hC hI ?_
  by_cases hu : σ 89 21 = 0
  · rw [if_pos hu]
    exact sg_X7_pullFirst_4 ⟨fun q => absurd rfl q, fun _ => hk0 hu⟩
  · rw [if_neg hu]
    have fi := fpi_in (σ := σ) (by omega)
    have pf := b4 (fpi σ) fi.1 (by omega)
    have s := hT.2.2.2.2.2.2.2.2.2.1 _ pf.1 pf.2
    have s6 := hT.2.2.2.2.1.2.2.1
    obtain ⟨P0, P1, P2, P3, P4, P5⟩ := b6 (fpi σ) fi.1 fi.2
    refine sg_X7_pullFirst_4 ⟨fun _ => ?_, fun q => by omega⟩
    simp (disch := omega) only [hT, true_and]
    refine ⟨fi.1, by omega, ?_⟩
    refine K_copy s6 s (by omega) (fun g f1 f2 f3 => ?_)
    have hD := cr_six hC f1 f2
    refine sg_X7_pullFirst_25 ⟨hD.T.2.2.2.1.1, ?_⟩
    refine K_remAt (τ := F_tk (fpi σ) σ) hD fi.1 fi.2 (fun a a1 a2 a3 => tk_off a1 a2 a3) (fun k k1 => tk_89 k1) tk_21 (fun i k k0 k1 i0 i1 => tk_i k0 k1 i1) (fun i k k0 k1 i0 i1 => tk_j k0 k1 i0 i1) (fun g' hg' => ?_)
    refine sg_X7_pullFirst_30 ⟨hg'.T.2.2.2.1.1, ?_⟩
    rw [hg'.T.2.2.2.1.2.2.1]
    refine hk1 hu _ g' (fun a a6 => ?_) hg' ?_
    · unfold r6
      rw [if_neg a6]
    · have q6 : r6 ρ g 6 = g 6 := by
        unfold r6
        rw [if_pos rfl]
      rw [CM, q6, f3 0 (by decide) (by decide), f3 1 (by decide) (by decide), f3 2 (by decide) (by decide), f3 3 (by decide) (by decide), f3 4 (by decide) (by decide), f3 5 (by decide) (by decide), f3 6 (by decide) (by decide), f3 7 (by decide) (by decide), f3 8 (by decide) (by decide), f3 9 (by decide) (by decide), tk_117 (by decide) (by decide), tk_117 (by decide) (by decide), tk_117 (by decide) (by decide), tk_117 (by decide) (by decide), tk_117 (by decide) (by decide), tk_117 (by decide) (by decide), tk_117 (by decide) (by decide), tk_117 (by decide) (by decide), tk_117 (by decide) (by decide), tk_117 (by decide) (by decide), Int.add_zero]
      exact ⟨P0, P1, P2, P3, P4, P5⟩
theorem K_pass (hC : CR ρ n σ h) (hM : CM σ ρ) (hk : ∀ g, CR ρ n (F_nw σ) g → Q none g) : Runs G mm_X7_passTimeTo [vR 4, vI (ρ 6 1)] h Q := by
  have hT := hC.T
  obtain ⟨⟨b1, b1', b1''⟩, -⟩ := hC.p
  obtain ⟨m0, m9, -⟩ := hM
  unfold F_nw at hk
  refine rn_X7_passTimeTo ⟨hT.2.2.2.1.1, ?_⟩
  rw [b1'', m9]
  refine ⟨fun q => ?_, fun q => ?_⟩
  · rw [if_pos q, wr_same rfl] at hk
    exact hk h hC
  · rw [if_neg q] at hk
    simp only [forall_eq]
    exact hk _ (cr_now hC)
set_option maxHeartbeats 4000000 in
theorem K_rep {m m' : Int} (hC : CR ρ n σ h) (hI : IV σ m m') (hM : CM σ ρ) (hCe : Ce σ m) (hs : σ 89 21 ≤ 23) (hk : ∀ g, CR ρ n (F_dup σ) g → Q none g) : Runs G mm_X7_repeat [vR 4, vR 6] h Q := by
  have hT := hC.T
  have o6 := hC.o.2
  obtain ⟨c0, c1, c2, c3, c8, c9⟩ := hCe
  obtain ⟨⟨b1, b1', b1''⟩, b2, b3, b4, b5, b6⟩ := hC.p
  obtain ⟨m0, m9, m1, m2, m8, mR⟩ := hM
  have s6 := hT.2.2.2.2.1.2.2.1
  have hp := b4 (σ 89 21) (by omega) (by omega)
  have ps := hT.2.2.2.2.2.2.2.2.2.1 _ hp.1 hp.2
  refine rn_X7_repeat ⟨s6, hT.2.2.2.1.1, ?_⟩
  rw [show h 6 0 = σ 117 0 by rw [o6, m0]]
  refine K_place hC hI (by omega) (by omega) (fun hf => by omega) (fun hf => ?_)
  refine sg_X7_repeat_8 ⟨fun q => by omega, fun _ => ⟨?_, ?_⟩⟩
  · simp (disch := omega) only [wr_s]
    exact ps
  · refine K_copy ?_ ?_ (by omega) (fun g f1 f2 f3 => ?_)
    · simp (disch := omega) only [wr_s]
      exact ps
    · simp (disch := omega) only [wr_s]
      exact s6
    · have f3' : ∀ k, 0 ≤ k → k < 10 → g (h 5 (σ 89 21)) k = ρ 6 k := fun k k0 k1 => by
        rw [f3 k k0 k1, wr_a (by omega), wr_a (by omega), wr_a (by omega), o6]
      have g4 : g 4 = wr h 4 3 (σ 89 21 + 1) 4 := by
        rw [f1 4 (by omega), wr_off (by omega), wr_off (by omega)]
      refine sg_X7_repeat_23 ⟨?_, ?_⟩
      · rw [f2 _ (by decide)]
        simp (disch := omega) only [wr_s]
        exact ps
      · simp only [forall_eq]
        rw [wr_e]
        refine hk _ ?_
        refine cr_app hC (by omega) rfl (fun a a1 a2 => ?_) ?_ (fun k k1 => ?_) (fun k k1 => ?_) (fun a a1 a2 => dup_off a1 a2) (fun k k1 k2 => dup_89 k1 k2) dup_21 (fun j hj => dup_i hj) ?_
        · rw [wr_off a2, f1 a a2, wr_off a2, wr_off a2, wr_off a1]
        · rw [wr_a (by omega), g4, wr_e]
        · rw [wr_a (by omega), g4, wr_k k1]
        · rw [wr_k (by omega), f2 k k1, wr_k (by omega), wr_k (by omega), wr_a (by omega)]
        · have z0 := dup_k (σ := σ) (k := 0) (by decide) (by decide)
          rw [Int.add_zero] at z0
          rw [PC, z0, dup_9, dup_k (k := 1) (by decide) (by decide), dup_k (k := 2) (by decide) (by decide), dup_k (k := 8) (by decide) (by decide), dup_k (k := 3) (by decide) (by decide), dup_k (k := 4) (by decide) (by decide), dup_k (k := 5) (by decide) (by decide), dup_k (k := 6) (by decide) (by decide), dup_k (k := 7) (by decide) (by decide), wr_e]
          rw [wr_k (by decide), wr_k (by decide), wr_k (by decide), wr_k (by decide), wr_k (by decide), wr_k (by decide), wr_k (by decide), wr_k (by decide), wr_k (by decide), f3' 0 (by decide) (by decide), f3' 2 (by decide) (by decide), f3' 3 (by decide) (by decide), f3' 4 (by decide) (by decide), f3' 5 (by decide) (by decide), f3' 6 (by decide) (by decide), f3' 7 (by decide) (by decide), f3' 8 (by decide) (by decide), f3' 9 (by decide) (by decide)]
          exact ⟨m0, rfl, m1, m2, m8, mR⟩
theorem dlv_ok {σ : Hp} {m : Int} (hCe : Ce σ m) : 0 ≤ σ 117 0 ∧ σ 117 0 < 4 := by
  obtain ⟨c0, -⟩ := hCe
  omega
set_option maxHeartbeats 8000000 in
theorem K_step {way m m' : Int} (hC : CR ρ n σ h) (hI : IV σ m m') (hmn : m ≤ 511) (hm : m' ≤ 99900) (hn : n ≤ 990) (hk : ∀ ρ' g, (∀ a, a ≠ 6 → ρ' a = ρ a) → CR ρ' n (F_step way σ) g → Q (some (vI (A_step way σ))) g) : Runs G mm_X9_step [vR 1, vI way] h Q := by
  have hT := hC.T
  have hN := hI.n
  unfold F_step A_step at hk
  refine rn_X9_step ⟨fun q => ?_, fun q => ?_⟩
  · simp only [if_neg (show ¬ ¬ (0 ≤ way ∧ way ≤ 2) by omega)] at hk
    simp (disch := omega) only [hT, true_and]
    refine K_pull hC hI (fun hu => ?_) (fun hu ρ' g hρ hg hM => ?_)
    · simp only [if_pos hu] at hk
      exact sg_X9_step_20 ⟨fun z => absurd rfl z, fun _ => hk ρ h (fun a _ => rfl) hC⟩
    · simp only [if_neg hu] at hk
      obtain ⟨q1, q2, q3, q4, q5, q6, q7⟩ := hI.q
      have fi := fpi_in (σ := σ) (by omega)
      obtain ⟨iT, iC⟩ := iv_tk hI fi.1 fi.2
      have a117 : F_tk (fpi σ) σ 117 0 = σ 109 (11 * fpi σ) := by rw [tk_117 (by decide) (by decide), Int.add_zero]
      have u23 : F_tk (fpi σ) σ 89 21 ≤ 23 := by rw [tk_21]; omega
      have d28 : F_tk (fpi σ) σ 89 28 ≤ m := by rw [tk_89 (by decide)]; omega
      have o6 := hg.o.2
      have m0 := hM.1
      have s6 := hg.T.2.2.2.2.1.2.2.1
      rw [← a117] at hk
      generalize F_tk (fpi σ) σ = τ at *
      obtain ⟨r1, r2, r3, r4, r5, r6, r7⟩ := iT.q
      have tT := hg.T
      obtain ⟨⟨b1, b1', b1''⟩, -⟩ := hg.p
      unfold F_st2 at hk
      have c117 := dlv_ok iC
      refine sg_X9_step_20 ⟨fun _ => ⟨fun w1 => ?_, fun w1 => ?_⟩, fun z => absurd z (by decide)⟩
      · simp (disch := omega) only [tT, true_and]
        rw [show g 6 1 = ρ' 6 1 by rw [o6], if_neg w1] at *
        refine K_pass hg hM (fun g2 hg2 => ?_)
        have iN := iv_nw iT iC (by omega)
        have n117 : F_nw τ 117 = τ 117 := now_off (by decide)
        have hM2 := CM_c n117 hM
        have o62 := hg2.o.2
        have tT2 := hg2.T
        have dC : Ce (F_nw τ) m := Ce_c n117 iC
        have d28n : F_nw τ 89 28 ≤ m := by rw [now_89 (by decide)]; exact d28
        have u23n : F_nw τ 89 21 ≤ 23 := by rw [now_89 (by decide)]; exact u23
        refine sg_X9_step_63 ⟨fun w2 => ?_, fun w2 => ?_⟩
        · rw [if_neg w2] at hk
          simp (disch := omega) only [tT2, true_and]
          rw [show g2 6 0 = τ 117 0 by rw [o62, m0]]
          simp (disch := omega) only [tT2, true_and]
          refine ⟨by omega, by omega, by decide, by decide, ?_⟩
          refine K_meet (m := m + 1) (m' := m') hg2 iN (by omega) hn hM2 (by rw [show m + 1 - 1 = m by omega]; exact dC) (by omega) (by rw [n117]) (fun g3 hg3 => ?_)
          refine sg_X9_step_89 ⟨hg3.T.2.2.2.2.1.2.2.1, ?_⟩
          rw [show g3 6 0 = τ 117 0 by rw [hg3.o.2, m0]]
          exact hk ρ' g3 hρ hg3
        · rw [if_pos w2] at hk
          simp (disch := omega) only [tT2, true_and]
          refine K_rep hg2 iN hM2 (by obtain ⟨c0, c1, c2, c3, c8, c9⟩ := dC; exact ⟨c0, c1, by omega, c3, c8, by omega⟩) u23n (fun g4 hg4 => ?_)
          have iD := iv_dup iN (by obtain ⟨c0, c1, c2, c3, c8, c9⟩ := dC; exact ⟨c0, c1, by omega, c3, c8, by omega⟩) (by omega) u23n
          have p117 : F_dup (F_nw τ) 117 = τ 117 := by rw [dup_off (by decide) (by decide), n117]
          have tT4 := hg4.T
          have hM4 := CM_c p117 hM
          have o64 := hg4.o.2
          have dC4 : Ce (F_dup (F_nw τ)) m := Ce_c p117 iC
          have d284 : F_dup (F_nw τ) 89 28 ≤ m := by rw [dup_89 (by decide) (by decide)]; exact d28n
          refine sg_X9_step_76 ?_
          simp (disch := omega) only [tT4, true_and]
          rw [show g4 6 0 = τ 117 0 by rw [o64, m0]]
          simp (disch := omega) only [tT4, true_and]
          refine ⟨by omega, by omega, by decide, by decide, ?_⟩
          refine K_meet (m := m + 1) (m' := m' + 1) hg4 iD (by omega) hn hM4 (by rw [show m + 1 - 1 = m by omega]; exact dC4) (by omega) (by rw [p117]) (fun g3 hg3 => ?_)
          refine sg_X9_step_89 ⟨hg3.T.2.2.2.2.1.2.2.1, ?_⟩
          rw [show g3 6 0 = τ 117 0 by rw [hg3.o.2, m0]]
          exact hk ρ' g3 hρ hg3
      · rw [if_pos w1] at hk
        simp (disch := omega) only [tT, true_and, b1', forall_eq, wr_s, wr_a, inI]
        rw [show g 6 0 = τ 117 0 by rw [o6, m0]]
        refine ⟨by omega, hk ρ' _ hρ (cr_lost hg)⟩
  · simp only [if_pos (show ¬ (0 ≤ way ∧ way ≤ 2) by omega)] at hk
    exact hk ρ h (fun a _ => rfl) hC
end K8
