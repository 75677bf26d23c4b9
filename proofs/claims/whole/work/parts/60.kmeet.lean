/-! the class: what an end does with what comes -/
section K6
variable {G : GG} {b : Nat × Nat} {Q : Option VV → Hp → Prop} {ρ σ h : Hp} {n : Int}
theorem rc2_off {e a : Int} {σ : Hp} (h1 : a ≠ 90) (h2 : a ≠ 99) (h3 : a ≠ 100) : F_rc2 e σ a = σ a := by
  unfold F_rc2
  rw [cpx_offr h3, wr_off h2, wr_off h1]
set_option maxHeartbeats 4000000 in
theorem Lk_take {e m m' : Int} (hC : CR ρ n (wr σ 90 (12 * (e % 2) + σ 100 (3 * e)) (σ 117 6)) h) (hI : IV σ m m') (h0 : 0 ≤ e) (h1 : e < 4) (hn : n ≤ 990) (hM : CM σ ρ) (ht : σ 117 1 = 0) (hz : 1 ≤ σ 99 e) (hb1 : 1 ≤ b.1) (hb2 : 6 ≤ b.2) (hk : ∀ g, CR ρ n (F_tells e 5 (σ 117 2) 0 (σ 117 6) (F_rc2 e σ)) g → Q (some (vI 0)) g) : ∀ (k : Nat) (i : Int), 1 ≤ i → i + k = σ 99 e → AW G mm_X1_takeIn b 39 [(0, vR (49 + 10 * e)), (1, vR 6), (2, vI i)] [] (cpx h (51 + 10 * e) 0 (51 + 10 * e) 1 (i - 1)) Q := by
  have hR := hr_of hI e h0 h1
  have e99 : wr σ 90 (12 * (e % 2) + σ 100 (3 * e)) (σ 117 6) 99 = σ 99 := wr_off (by decide)
  have e96 : wr σ 90 (12 * (e % 2) + σ 100 (3 * e)) (σ 117 6) 96 = σ 96 := wr_off (by decide)
  have hb := top_g hC hI e96.symm e99.symm
  have o6 := hC.o.2
  obtain ⟨m0, m9, m1, m2, m8, mR⟩ := hM
  obtain ⟨m3, m4, m5, m6, m7⟩ := mR ht
  have hJ := hI.j h0 h1
  have hN := hI.n
  have ho := hI.e e h0 h1
  have hE10 : h (49 + 10 * e) 10 = σ 99 e := by
    rw [← e99]
    exact (hC.e e h0 h1).2.2.2.2.1
  intro k
  induction k with
  | zero =>
    intro i i0 hi
    have hi2 : i = σ 99 e := by omega
    subst hi2
    have hTH : CT (cpx h (51 + 10 * e) 0 (51 + 10 * e) 1 (σ 99 e - 1)) := ct_cpx hC.T (by decide) (fun k k0 => by unfold Fx; omega)
    have h10 : cpx h (51 + 10 * e) 0 (51 + 10 * e) 1 (σ 99 e - 1) (49 + 10 * e) 10 = σ 99 e := by rw [cpx_off (by omega)]; exact hE10
    have c6 : cpx h (51 + 10 * e) 0 (51 + 10 * e) 1 (σ 99 e - 1) 6 = ρ 6 := by rw [cpx_offr (by omega)]; exact o6
    have hD := cr_rcs hC h0 h1 (by rw [e99]; exact hz) (by rw [e99]; exact hr_of hI)
    rw [e99] at hD
    refine sg_X1_takeIn_39 ?_
    simp (disch := omega) only [hTH, h10, forall_eq, true_and, and_true, inI]
    refine ⟨fun _ => ⟨by omega, ?_, hb1, hb2, ?_, ?_⟩, fun q => by omega⟩
    · simp (disch := omega) only [wr_a, cpx_off]
      omega
    · rw [nw_row (by simp (disch := omega) only [wr_a, cpx_off]; omega) (by decide), wr_off (by omega)]
      exact hTH.2.2.2.2.1.2.2.1
    · rw [nw_row (b := 6) (by simp (disch := omega) only [wr_a, cpx_off]; omega) (by decide), wr_off (b := 6) (by omega), c6, m2, m6]
      refine K_ninit rfl ?_
      refine sg_X1_takeIn_102 ⟨?_, ?_⟩
      · rw [ntc_row (by simp (disch := omega) only [wr_a, cpx_off]; omega) (by omega)]
        simp (disch := omega) only [wr_s]
        exact (hTH.2.2.2.2.2.2.1 (e % 2) (by omega) (by omega)).2.1
      · refine K_push hD h0 h1 ?_ ?_ rfl rfl ?_
        · intro x x0 x1
          show 0 ≤ F_rc2 e σ 111 x ∧ F_rc2 e σ 111 x ≤ F_rc2 e σ 112 x ∧ F_rc2 e σ 112 x < 600
          rw [rc2_off (by decide) (by decide) (by decide), rc2_off (by decide) (by decide) (by decide)]
          exact hz_of hI x x0 x1
        · show F_rc2 e σ 112 (e % 2) < 512
          rw [rc2_off (by decide) (by decide) (by decide)]
          omega
        · intro g hg
          refine sg_X1_takeIn_105 (hk g ?_)
          rw [show n = n - 1 + 1 by omega]
          exact hg
  | succ k ih =>
    intro i i0 hi
    have hTH : CT (cpx h (51 + 10 * e) 0 (51 + 10 * e) 1 (i - 1)) := ct_cpx hC.T (by decide) (fun k k0 => by unfold Fx; omega)
    have h10 : cpx h (51 + 10 * e) 0 (51 + 10 * e) 1 (i - 1) (49 + 10 * e) 10 = σ 99 e := by rw [cpx_off (by omega)]; exact hE10
    have st : wr (cpx h (51 + 10 * e) 0 (51 + 10 * e) 1 (i - 1)) (51 + 10 * e) (i - 1) (cpx h (51 + 10 * e) 0 (51 + 10 * e) 1 (i - 1) (51 + 10 * e) i) = cpx h (51 + 10 * e) 0 (51 + 10 * e) 1 (i + 1 - 1) := by
      have := cpx_s (σ := h) (a := 51 + 10 * e) (dst := 0) (b := 51 + 10 * e) (src := 1) (n := i - 1) (by omega) (by omega)
      rw [show (0 : Int) + (i - 1) = i - 1 by omega, show (1 : Int) + (i - 1) = i by omega, show i - 1 + 1 = i + 1 - 1 by omega] at this
      exact this
    refine sg_X1_takeIn_39 ?_
    simp (disch := omega) only [hTH, h10, forall_eq, true_and, and_true, inI, st]
    exact ⟨fun q => by omega, fun _ => ⟨by omega, by omega, by omega, by omega, by omega, by omega, ih (i + 1) (by omega) (by omega)⟩⟩
set_option maxHeartbeats 4000000 in
theorem K_takeIn {e m m' : Int} (hC : CR ρ n σ h) (hI : IV σ m m') (h0 : 0 ≤ e) (h1 : e < 4) (hn : n ≤ 990) (hM : CM σ ρ) (ht : σ 117 1 = 0) (hk0 : σ 99 e = 0 → ∀ g, CR ρ n (F_snd e 3 (σ 117 2) 0 (-1) σ) g → Q (some (vI (-1))) g) (hk1 : ¬ σ 99 e = 0 → ∀ g, CR ρ n (F_tells e 5 (σ 117 2) 0 (σ 117 6) (F_rc2 e σ)) g → Q (some (vI 0)) g) : Runs G mm_X1_takeIn [vR (49 + 10 * e), vR 6] h Q := by
  have hT := hC.T
  have hE := hC.e
  have o6 := hC.o.2
  have hM2 := hM
  obtain ⟨m0, m9, m1, m2, m8, mR⟩ := hM
  obtain ⟨m3, m4, m5, m6, m7⟩ := mR ht
  have hR := hr_of hI e h0 h1
  refine rn_X1_takeIn ?_
  simp (disch := omega) only [hT, hE, true_and, forall_eq]
  refine ⟨fun q => ?_, fun q => ?_⟩
  · have r0 := hC.r e 0 h0 h1 (by decide) (by omega)
    rw [Int.add_zero] at r0
    have p0 := hI.p e 0 h0 h1 (by decide) (by omega)
    rw [Int.add_zero] at p0
    rw [r0, show h 6 8 = σ 117 6 by rw [o6, m6]]
    refine ⟨by omega, by omega, by omega, ?_⟩
    have L := Lk_take (G := G) (Q := Q) (b := (1, 6)) (cr_cell (v := σ 117 6) hC (show 0 ≤ e % 2 by omega) (by omega) p0.1 (show σ 100 (3 * e) < 12 by omega)) hI h0 h1 hn hM2 ht (by omega) (by decide) (by decide) (hk1 q) (σ 99 e - 1).toNat 1 (by decide) (by omega)
    rw [show (1 : Int) - 1 = 0 by omega, cpx_0] at L
    exact L
  · rw [show h 6 3 = σ 117 2 by rw [o6, m2]]
    exact K_ans hC hI h0 h1 (by decide) (fun g hg => sg_X1_takeIn_17 (hk0 q g hg))
/-- what was expected is done: the class's words for it -/
theorem K_pas {e v m m' : Int} {Z : Option VV → Hp → Prop} (hC : CR ρ n σ h) (hI : IV (wr (wr σ 98 e (σ 117 2 + 1)) 103 e 0) m m') (h0 : 0 ≤ e) (h1 : e < 4) (hM : CM σ ρ) (hk : ∀ g, CR ρ n (F_pas e (σ 117 2) v σ) g → Z none g) : Runs G mm_X1_answer [vR (49 + 10 * e), vI 1, vI (σ 117 2), vI v] (wr (wr h (49 + 10 * e) 9 (σ 117 2 + 1)) (49 + 10 * e) 13 0) Z :=
  K_ans (cr_sc (cr_sc hC h0 h1 (by omega)) h0 h1 (by omega)) hI h0 h1 (by decide) hk
set_option maxHeartbeats 4000000 in
theorem K_exp {e m m' : Int} (hC : CR ρ n σ h) (hI : IV σ m m') (hm : m' ≤ 99990) (h0 : 0 ≤ e) (h1 : e < 4) (hn : n ≤ 990) (hM : CM σ ρ) (ht : σ 117 1 = 0) (hc : Co σ) (h3 : 0 ≤ σ 117 3 ∧ σ 117 3 ≤ 4) (hr : 0 ≤ σ 117 2 ∧ σ 117 2 + 1 ≤ m) (hd : σ 89 28 + 1 ≤ m) (hx : σ 117 2 = σ 98 e) (hk : ∀ g, CR ρ n (F_req e (σ 117 2) (σ 117 3) σ) g → Q none g) : Runs G mm_X1_meetExpected [vR (49 + 10 * e), vR 6] h Q := by
  have hT := hC.T
  have o6 := hC.o.2
  have hM2 := hM
  obtain ⟨m0, m9, m1, m2, m8, mR⟩ := hM
  obtain ⟨m3, m4, m5, m6, m7⟩ := mR ht
  have hN := hI.n
  have s6 := hT.2.2.2.2.1.2.2.1
  unfold F_req at hk
  rw [if_neg (by omega)] at hk
  refine rn_X1_meetExpected ⟨s6, ?_⟩
  rw [show h 6 5 = σ 117 3 by rw [o6, m3]]
  refine ⟨fun q => ⟨by decide, by decide, sh2 hT h0 h1, ?_⟩, fun q => ⟨by decide, by decide, sh2 hT h0 h1, ?_⟩⟩
  · rw [if_pos (Or.inr ⟨hx, q⟩)] at hk
    unfold F_acc at hk
    refine K_reach hC hI hm h0 h1 hn hM2 ht hc (by omega) (by omega) (fun hy g hg => ?_) (fun hy g hg => ?_)
    · rw [if_neg hy] at hk
      exact sg_X1_meetExpected_20 ⟨fun _ => hk g hg, fun z => absurd rfl z⟩
    · rw [if_pos hy] at hk
      obtain ⟨iA, iB, iC⟩ := iv_a1 hI hc h0 h1 hy
      have o6g := hg.o.2
      refine sg_X1_meetExpected_20 ⟨fun z => ?_, fun _ => ?_⟩
      · split at z <;> omega
      · rw [show g 6 3 = σ 117 2 by rw [o6g, m2]]
        refine ⟨hg.T.2.2.2.2.1.2.2.1, by unfold inI; omega, sh2 hg.T h0 h1, ?_⟩
        simp only [forall_eq]
        unfold F_a2 F_a3 at hk
        have q98 : (if σ 117 3 ≤ 2 then F_a1 e (σ 117 3) σ else F_chm e (σ 117 2) (σ 90 (ka e σ)) (F_a1 e (σ 117 3) σ)) 98 e = σ 98 e := by
          split
          · rw [iC _ (by decide)]
          · rw [chm_off (by decide) (by decide) (by decide), iC _ (by decide)]
        have q117 : (if σ 117 3 ≤ 2 then F_a1 e (σ 117 3) σ else F_chm e (σ 117 2) (σ 90 (ka e σ)) (F_a1 e (σ 117 3) σ)) 117 = σ 117 := by
          split
          · rw [iC _ (by decide)]
          · rw [chm_off (by decide) (by decide) (by decide), iC _ (by decide)]
        rw [q98, if_pos (by omega)] at hk
        have hIp : IV (wr (wr (if σ 117 3 ≤ 2 then F_a1 e (σ 117 3) σ else F_chm e (σ 117 2) (σ 90 (ka e σ)) (F_a1 e (σ 117 3) σ)) 98 e (σ 117 2 + 1)) 103 e 0) m m' := by
          refine iv_e ?_ h0 h1 (by omega)
          split
          · refine iv_e iA h0 h1 ?_
            rw [iC 98 (by decide)]
            omega
          · refine iv_chm iA h0 h1 ?_ (by omega) ?_ iB.1 iB.2
            · rw [iC 98 (by decide)]
              exact hx.symm
            · rw [iC 89 (by decide)]
              exact hd
        have KP := K_pas (G := G) (e := e) (v := if σ 117 3 = 1 then 0 else σ 90 (ka e σ)) (Z := fun r h' => AW G mm_X1_meetExpected (7 - 7, 42 - 42) 51 [] (r.toList ++ []) h' Q) hg (by rw [q117]; exact hIp) h0 h1 (CM_c q117 hM2) (fun g' hg' => sg_X1_meetExpected_51 (hk g' (by rw [q117] at hg'; exact hg')))
        rw [q117] at KP
        exact KP
  · rw [if_neg (by omega), if_pos hx] at hk
    unfold F_rec at hk
    refine K_takeIn hC hI h0 h1 hn hM2 ht (fun hz g hg => ?_) (fun hz g hg => ?_)
    · rw [if_pos hz] at hk
      exact sg_X1_meetExpected_12 ⟨fun _ => hk g hg, fun z => absurd rfl z⟩
    · rw [if_neg hz] at hk
      have hRz := hr_of hI e h0 h1
      have iT := iv_rct (r := σ 117 2) (v := σ 117 6) hI hc h0 h1 (by omega)
      have o6g := hg.o.2
      have q117 : F_tells e 5 (σ 117 2) 0 (σ 117 6) (F_rc2 e σ) 117 = σ 117 := by rw [tells_off (by decide) (by decide), rc2_off (by decide) (by decide) (by decide)]
      refine sg_X1_meetExpected_12 ⟨fun z => absurd z (by decide), fun _ => ?_⟩
      rw [show g 6 3 = σ 117 2 by rw [o6g, m2]]
      refine ⟨hg.T.2.2.2.2.1.2.2.1, by unfold inI; omega, sh2 hg.T h0 h1, ?_⟩
      simp only [forall_eq]
      have hIp : IV (wr (wr (F_tells e 5 (σ 117 2) 0 (σ 117 6) (F_rc2 e σ)) 98 e (σ 117 2 + 1)) 103 e 0) m m' := by
        refine iv_e (iv_e iT h0 h1 ?_) h0 h1 (by omega)
        rw [rct_98]
        omega
      have KP := K_pas (G := G) (e := e) (v := 0) (Z := fun r h' => AW G mm_X1_meetExpected (7 - 1, 42 - 6) 51 [] (r.toList ++ []) h' Q) hg (by rw [q117]; exact hIp) h0 h1 (CM_c q117 hM2) (fun g' hg' => sg_X1_meetExpected_51 (hk g' (by rw [q117] at hg'; exact hg')))
      rw [q117] at KP
      exact KP
end K6
