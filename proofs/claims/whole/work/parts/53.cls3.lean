/-! posted, sent, removed, remembered, taken, anew: class and reference side by side -/
section CV
variable {ρ σ τ h g : Hp} {n : Int}
set_option maxHeartbeats 4000000 in
theorem cr_app {p : Int} (hC : CR ρ n σ h) (hf : σ 89 21 < 24) (hp : p = h 5 (σ 89 21)) (off : ∀ a, a ≠ 4 → a ≠ p → g a = h a) (g43 : g 4 3 = σ 89 21 + 1) (g4 : ∀ k, k ≠ 3 → g 4 k = h 4 k) (gs : ∀ k, k < 0 → g p k = h p k) (t1 : ∀ a, a ≠ 89 → a ≠ 109 → τ a = σ a) (t2 : ∀ k, k ≠ 21 → k ≠ 22 → τ 89 k = σ 89 k) (t3 : τ 89 21 = σ 89 21 + 1) (t4 : ∀ j, j < 11 * σ 89 21 → τ 109 j = σ 109 j) (P : PC τ g 109 (11 * σ 89 21) p) : CR ρ n τ g := by
  obtain ⟨b1, b2, b3, b4, b5, b6⟩ := hC.p
  have hpb := b4 (σ 89 21) (by omega) (by omega)
  rw [← hp] at hpb
  refine ⟨?_, ?_, ?_, ?_, ?_, ?_, ?_, ?_, ?_, ?_, ?_, ?_, ?_, ?_⟩
  · exact CO_c (by intros; exact off _ (by omega) (by omega)) (by intros; exact off _ (by omega) (by omega)) (by intros; exact off _ (by omega) (by omega)) (by intros; rw [off _ (by omega) (by omega)]) hC.o
  · refine CT_of hC.T (fun b y b1 b2 hb => ?_)
    by_cases e4 : b = 4
    · subst e4
      exact g4 y (by unfold Fx at hb; omega)
    · by_cases ep : b = p
      · rw [ep]
        exact gs y (by unfold Fx at hb; omega)
      · rw [off b e4 ep]
  · exact CB_c (by omega) (by intros; rw [off _ (by omega) (by omega)]) (t1 _ (by decide) (by decide)) (t1 _ (by decide) (by decide)) hC.b
  · exact Cc_c (by intros; exact off _ (by omega) (by omega)) (t1 _ (by decide) (by decide)) hC.c
  · exact Ck_c (by intros; exact off _ (by omega) (by omega)) (t1 _ (by decide) (by decide)) (t1 _ (by decide) (by decide)) (t1 _ (by decide) (by decide)) hC.k
  · exact CE_c (by intros; exact off _ (by omega) (by omega)) (by intros; exact off _ (by omega) (by omega)) (t1 _ (by decide) (by decide)) (t1 _ (by decide) (by decide)) (t1 _ (by decide) (by decide)) (t1 _ (by decide) (by decide)) (t1 _ (by decide) (by decide)) (t1 _ (by decide) (by decide)) (t1 _ (by decide) (by decide)) (t1 _ (by decide) (by decide)) (t1 _ (by decide) (by decide)) (t1 _ (by decide) (by decide)) (t1 _ (by decide) (by decide)) hC.e
  · exact Cw_c (by intros; exact off _ (by omega) (by omega)) (by intros; exact off _ (by omega) (by omega)) (t1 _ (by decide) (by decide)) (t1 _ (by decide) (by decide)) hC.w
  · exact Cr_c (by intros; exact off _ (by omega) (by omega)) (t1 _ (by decide) (by decide)) (t1 _ (by decide) (by decide)) hC.r
  · exact Cg_c (by intros; exact off _ (by omega) (by omega)) (by intros; exact off _ (by omega) (by omega)) (t1 _ (by decide) (by decide)) (t1 _ (by decide) (by decide)) hC.g
  · have row : g 5 = h 5 := off _ (by omega) (by omega)
    rw [Cp, row, g43, g4 4 (by decide), g4 5 (by decide), off 7 (by omega) (by omega), t3, t2 19 (by decide) (by decide), t2 29 (by decide) (by decide), t1 108 (by decide) (by decide)]
    refine ⟨⟨rfl, b1.2.1, b1.2.2⟩, by omega, b3, b4, b5, fun i i0 i1 => ?_⟩
    by_cases hi : i = σ 89 21
    · rw [hi, ← hp]
      exact P
    · have hq := b4 i i0 (by omega)
      have hne : ¬ h 5 i = p := fun q => b5 i (σ 89 21) i0 (by omega) (by omega) (by rw [q, hp])
      rw [PC, off _ (by omega) hne, t4 _ (by omega), t4 _ (by omega), t4 _ (by omega), t4 _ (by omega), t4 _ (by omega), t4 _ (by omega), t4 _ (by omega), t4 _ (by omega), t4 _ (by omega), t4 _ (by omega)]
      exact b6 i i0 (by omega)
  · exact Cd_c (by rw [off _ (by omega) (by omega)]) (by rw [off _ (by omega) (by omega)]) (t2 _ (by decide) (by decide)) hC.d
  · exact Cn_c (by intros; rw [off _ (by omega) (by omega)]) (by intros; rw [off _ (by omega) (by omega)]) (by intros; rw [off _ (by omega) (by omega)]) (by intros; exact off _ (by omega) (by omega)) (by rw [off 0 (by omega) (by omega)]; omega) (t1 _ (by decide) (by decide)) (t1 _ (by decide) (by decide)) (t1 _ (by decide) (by decide)) hC.n
  · exact Cl_c (by rw [off _ (by omega) (by omega)]) (by rw [off _ (by omega) (by omega)]) (by intros; rw [off _ (by omega) (by omega)]) (by rw [off 0 (by omega) (by omega)]; omega) (t2 _ (by decide) (by decide)) (t1 _ (by decide) (by decide)) hC.l
  · exact Cx_c (by rw [off _ (by omega) (by omega)]) (off _ (by omega) (by omega)) (t2 _ (by decide) (by decide)) (t1 _ (by decide) (by decide)) hC.x
set_option maxHeartbeats 4000000 in
theorem cr_rem {f : Int} (hC : CR ρ n σ h) (f0 : 0 ≤ f) (f1 : f < σ 89 21) (off : ∀ a, a ≠ 4 → a ≠ 5 → g a = h a) (g43 : g 4 3 = σ 89 21 - 1) (g4 : ∀ k, k ≠ 3 → g 4 k = h 4 k) (gs : ∀ k, k < 0 → g 5 k = h 5 k) (row : ∀ i, 0 ≤ i → i < 24 → g 5 i = if i < f then h 5 i else if i < σ 89 21 - 1 then h 5 (i + 1) else if i = σ 89 21 - 1 then h 5 f else h 5 i) (t1 : ∀ a, a ≠ 89 → a ≠ 109 → a ≠ 117 → τ a = σ a) (t2 : ∀ k, k ≠ 21 → τ 89 k = σ 89 k) (t3 : τ 89 21 = σ 89 21 - 1) (t4 : ∀ i k, 0 ≤ k → k < 11 → 0 ≤ i → i < f → τ 109 (11 * i + k) = σ 109 (11 * i + k)) (t5 : ∀ i k, 0 ≤ k → k < 11 → f ≤ i → i < σ 89 21 - 1 → τ 109 (11 * i + k) = σ 109 (11 * (i + 1) + k)) : CR ρ n τ g := by
  obtain ⟨b1, b2, b3, b4, b5, b6⟩ := hC.p
  refine ⟨?_, ?_, ?_, ?_, ?_, ?_, ?_, ?_, ?_, ?_, ?_, ?_, ?_, ?_⟩
  · exact CO_c (by intros; exact off _ (by omega) (by omega)) (by intros; exact off _ (by omega) (by omega)) (by intros; exact off _ (by omega) (by omega)) (by intros; rw [off _ (by omega) (by omega)]) hC.o
  · refine CT_of hC.T (fun b y b1 b2 hb => ?_)
    by_cases e4 : b = 4
    · subst e4
      exact g4 y (by unfold Fx at hb; omega)
    · by_cases ep : b = 5
      · subst ep
        exact gs y (by unfold Fx at hb; omega)
      · rw [off b e4 ep]
  · exact CB_c (by omega) (by intros; rw [off _ (by omega) (by omega)]) (t1 _ (by decide) (by decide) (by decide)) (t1 _ (by decide) (by decide) (by decide)) hC.b
  · exact Cc_c (by intros; exact off _ (by omega) (by omega)) (t1 _ (by decide) (by decide) (by decide)) hC.c
  · exact Ck_c (by intros; exact off _ (by omega) (by omega)) (t1 _ (by decide) (by decide) (by decide)) (t1 _ (by decide) (by decide) (by decide)) (t1 _ (by decide) (by decide) (by decide)) hC.k
  · exact CE_c (by intros; exact off _ (by omega) (by omega)) (by intros; exact off _ (by omega) (by omega)) (t1 _ (by decide) (by decide) (by decide)) (t1 _ (by decide) (by decide) (by decide)) (t1 _ (by decide) (by decide) (by decide)) (t1 _ (by decide) (by decide) (by decide)) (t1 _ (by decide) (by decide) (by decide)) (t1 _ (by decide) (by decide) (by decide)) (t1 _ (by decide) (by decide) (by decide)) (t1 _ (by decide) (by decide) (by decide)) (t1 _ (by decide) (by decide) (by decide)) (t1 _ (by decide) (by decide) (by decide)) (t1 _ (by decide) (by decide) (by decide)) hC.e
  · exact Cw_c (by intros; exact off _ (by omega) (by omega)) (by intros; exact off _ (by omega) (by omega)) (t1 _ (by decide) (by decide) (by decide)) (t1 _ (by decide) (by decide) (by decide)) hC.w
  · exact Cr_c (by intros; exact off _ (by omega) (by omega)) (t1 _ (by decide) (by decide) (by decide)) (t1 _ (by decide) (by decide) (by decide)) hC.r
  · exact Cg_c (by intros; exact off _ (by omega) (by omega)) (by intros; exact off _ (by omega) (by omega)) (t1 _ (by decide) (by decide) (by decide)) (t1 _ (by decide) (by decide) (by decide)) hC.g
  · rw [Cp, g43, g4 4 (by decide), g4 5 (by decide), off 7 (by omega) (by omega), t3, t2 19 (by decide), t2 29 (by decide), t1 108 (by decide) (by decide) (by decide)]
    refine ⟨⟨rfl, b1.2.1, b1.2.2⟩, by omega, b3, fun i i0 i1 => ?_, fun i j i0 i1 j1 => ?_, fun i i0 i1 => ?_⟩
    · rw [row i i0 i1]
      (repeat' split) <;> exact b4 _ (by omega) (by omega)
    · rw [row i i0 (by omega), row j (by omega) j1]
      have sy : ∀ x y, 0 ≤ x → x < 24 → 0 ≤ y → y < 24 → x ≠ y → ¬ h 5 x = h 5 y := fun x y x0 x1 y0 y1 ne => by
        rcases (show x < y ∨ y < x by omega) with q | q
        · exact b5 x y x0 q y1
        · exact fun z => b5 y x y0 q x1 z.symm
      (repeat' split) <;> first | (exfalso; omega) | exact sy _ _ (by omega) (by omega) (by omega) (by omega) (by omega)
    · have r24 : i < 24 := by omega
      by_cases hif : i < f
      · rw [row i i0 r24, if_pos hif]
        have hq := b4 i i0 r24
        rw [PC, off _ (by omega) (by omega)]
        have P := b6 i i0 (by omega)
        have z := fun k k0 k1 => t4 i k k0 k1 i0 hif
        rw [PC, ← z 1 (by decide) (by decide), ← z 2 (by decide) (by decide), ← z 3 (by decide) (by decide), ← z 4 (by decide) (by decide), ← z 5 (by decide) (by decide), ← z 6 (by decide) (by decide), ← z 7 (by decide) (by decide), ← z 8 (by decide) (by decide), ← z 9 (by decide) (by decide), ← Int.add_zero (11 * i), ← z 0 (by decide) (by decide)] at P
        rw [Int.add_zero] at P
        exact P
      · rw [row i i0 r24, if_neg hif, if_pos (by omega)]
        have hq := b4 (i + 1) (by omega) (by omega)
        rw [PC, off _ (by omega) (by omega)]
        have P := b6 (i + 1) (by omega) (by omega)
        have z := fun k k0 k1 => t5 i k k0 k1 (by omega) i1
        rw [PC, ← z 1 (by decide) (by decide), ← z 2 (by decide) (by decide), ← z 3 (by decide) (by decide), ← z 4 (by decide) (by decide), ← z 5 (by decide) (by decide), ← z 6 (by decide) (by decide), ← z 7 (by decide) (by decide), ← z 8 (by decide) (by decide), ← z 9 (by decide) (by decide), ← Int.add_zero (11 * (i + 1)), ← z 0 (by decide) (by decide)] at P
        rw [Int.add_zero] at P
        exact P
  · exact Cd_c (by rw [off _ (by omega) (by omega)]) (by rw [off _ (by omega) (by omega)]) (t2 _ (by decide)) hC.d
  · exact Cn_c (by intros; rw [off _ (by omega) (by omega)]) (by intros; rw [off _ (by omega) (by omega)]) (by intros; rw [off _ (by omega) (by omega)]) (by intros; exact off _ (by omega) (by omega)) (by rw [off 0 (by omega) (by omega)]; omega) (t1 _ (by decide) (by decide) (by decide)) (t1 _ (by decide) (by decide) (by decide)) (t1 _ (by decide) (by decide) (by decide)) hC.n
  · exact Cl_c (by rw [off _ (by omega) (by omega)]) (by rw [off _ (by omega) (by omega)]) (by intros; rw [off _ (by omega) (by omega)]) (by rw [off 0 (by omega) (by omega)]; omega) (t2 _ (by decide)) (t1 _ (by decide) (by decide) (by decide)) hC.l
  · exact Cx_c (by rw [off _ (by omega) (by omega)]) (off _ (by omega) (by omega)) (t2 _ (by decide)) (t1 _ (by decide) (by decide) (by decide)) hC.x
end CV
