/-! posted, remembered, taken, anew: class and reference side by side -/
section CW
variable {ρ σ h g : Hp} {n : Int}
set_option maxHeartbeats 4000000 in
theorem cr_post {e k v w c p : Int} (hC : CR ρ n σ h) (h0 : 0 ≤ e) (h1 : e < 4) (ho : σ 96 e < 4) (hpc : k ≤ 1 ∨ pc e σ (σ 96 e).toNat < 2) (hp : p = h (50 + 10 * e) (σ 96 e)) (off : ∀ a, a ≠ 49 + 10 * e → a ≠ p → g a = h a) (g7 : g (49 + 10 * e) 7 = σ 95 e + 1) (g8 : g (49 + 10 * e) 8 = σ 96 e + 1) (g4 : ∀ x, x ≠ 7 → x ≠ 8 → g (49 + 10 * e) x = h (49 + 10 * e) x) (gs : ∀ x, x < 0 → g p x = h p x) (p0 : g p 0 = σ 95 e) (p1 : g p 1 = k) (p2 : g p 2 = σ 106 e) (p3 : g p 3 = σ 107 e) (p4 : g p 4 = v) (p5 : g p 5 = w) (p6 : g p 6 = c) : CR ρ (n + 1) (F_ps0 e k v w c σ) g := by
  obtain ⟨w1, w2, w3, w4⟩ := hC.w e h0 h1
  have hpb := w2 (σ 96 e) (by omega) (by omega)
  rw [← hp] at hpb
  have hb := hC.b
  refine ⟨?_, ?_, ?_, ?_, ?_, ?_, ?_, ?_, ?_, ?_, ?_, ?_, ?_, ?_⟩
  · exact CO_c (by intros; exact off _ (by omega) (by omega)) (by intros; exact off _ (by omega) (by omega)) (by intros; exact off _ (by omega) (by omega)) (by intros; rw [off _ (by omega) (by omega)]) hC.o
  · refine CT_of hC.T (fun b y b1 b2 hb => ?_)
    by_cases e4 : b = 49 + 10 * e
    · rw [e4]
      exact g4 y (by unfold Fx at hb; omega) (by unfold Fx at hb; omega)
    · by_cases ep : b = p
      · rw [ep]
        exact gs y (by unfold Fx at hb; omega)
      · rw [off b e4 ep]
  · rw [CB, off 0 (by omega) (by omega), ps0_96, ps0_96, ps0_96, ps0_96, ps0_off (by decide) (by decide) (by decide)]
    rcases (show e = 0 ∨ e = 1 ∨ e = 2 ∨ e = 3 by omega) with rfl | rfl | rfl | rfl <;> simp (disch := omega) only [if_neg, if_pos] <;> omega
  · exact Cc_c (by intros; exact off _ (by omega) (by omega)) (ps0_off (by decide) (by decide) (by decide)) hC.c
  · exact Ck_c (by intros; exact off _ (by omega) (by omega)) (ps0_off (by decide) (by decide) (by decide)) (ps0_off (by decide) (by decide) (by decide)) (ps0_off (by decide) (by decide) (by decide)) hC.k
  · intro x x0 x1
    have hx := hC.e x x0 x1
    rw [off (52 + 10 * x) (by omega) (by omega), ps0_95, ps0_96, ps0_off (by decide) (by decide) (by decide), ps0_off (by decide) (by decide) (by decide), ps0_off (by decide) (by decide) (by decide), ps0_off (by decide) (by decide) (by decide), ps0_off (by decide) (by decide) (by decide), ps0_off (by decide) (by decide) (by decide), ps0_off (by decide) (by decide) (by decide), ps0_off (by decide) (by decide) (by decide), ps0_off (by decide) (by decide) (by decide)]
    by_cases hy : x = e
    · subst hy
      rw [g7, g8, g4 6 (by decide) (by decide), g4 9 (by decide) (by decide), g4 10 (by decide) (by decide), g4 11 (by decide) (by decide), g4 12 (by decide) (by decide), g4 13 (by decide) (by decide), g4 14 (by decide) (by decide), g4 15 (by decide) (by decide), if_pos rfl, if_pos rfl]
      exact ⟨hx.1, rfl, rfl, hx.2.2.2⟩
    · rw [off (49 + 10 * x) (by omega) (by omega), if_neg hy, if_neg hy]
      exact hx
  · intro x x0 x1
    obtain ⟨k1, k2, k3, k4⟩ := hC.w x x0 x1
    rw [off (50 + 10 * x) (by omega) (by omega), ps0_96]
    by_cases hy : x = e
    · subst hy
      rw [if_pos rfl]
      refine ⟨⟨by omega, by omega, ?_⟩, k2, k3, fun i y i0 i1 y0 y1 => ?_⟩
      · rw [show (σ 96 x + 1).toNat = (σ 96 x).toNat + 1 by omega]
        have e1 : pc x (F_ps0 x k v w c σ) ((σ 96 x).toNat + 1) = pc x (F_ps0 x k v w c σ) (σ 96 x).toNat + (if F_ps0 x k v w c σ 97 (28 * x + 7 * ((σ 96 x).toNat : Int) + 1) ≤ 1 then 0 else 1) := rfl
        rw [e1, pc_e (σ := σ) _ (fun i i0 i1 => ps0_97o (by omega)), show 28 * x + 7 * ((σ 96 x).toNat : Int) + 1 = 7 * (4 * x + σ 96 x) + 1 by omega, ps0_97.2.1]
        split <;> omega
      by_cases hi : i = σ 96 x
      · subst hi
        obtain ⟨v0, v1, v2, v3, v4, v5, v6⟩ := ps0_97 (e := x) (k := k) (v := v) (w := w) (c := c) (σ := σ)
        rw [← hp, show 28 * x + 7 * σ 96 x + y = 7 * (4 * x + σ 96 x) + y by omega]
        rcases (show y = 0 ∨ y = 1 ∨ y = 2 ∨ y = 3 ∨ y = 4 ∨ y = 5 ∨ y = 6 by omega) with rfl | rfl | rfl | rfl | rfl | rfl | rfl
        · rw [p0, Int.add_zero, v0]
        · rw [p1, v1]
        · rw [p2, v2]
        · rw [p3, v3]
        · rw [p4, v4]
        · rw [p5, v5]
        · rw [p6, v6]
      · have hq := k2 i i0 (by omega)
        have hne : ¬ h (50 + 10 * x) i = p := fun q => k3 i (σ 96 x) i0 (by omega) (by omega) (by rw [q, hp])
        rw [off _ (by omega) hne, ps0_97o (by omega)]
        exact k4 i y i0 (by omega) y0 y1
    · rw [if_neg hy]
      refine ⟨⟨k1.1, k1.2.1, by rw [pc_e (σ := σ) _ (fun i i0 i1 => ps0_97o (by omega))]; exact k1.2.2⟩, k2, k3, fun i y i0 i1 y0 y1 => ?_⟩
      have hq := k2 i i0 (by omega)
      rw [off _ (by omega) (by omega), ps0_97o (by omega)]
      exact k4 i y i0 i1 y0 y1
  · exact Cr_c (by intros; exact off _ (by omega) (by omega)) (ps0_off (by decide) (by decide) (by decide)) (ps0_off (by decide) (by decide) (by decide)) hC.r
  · exact Cg_c (by intros; exact off _ (by omega) (by omega)) (by intros; exact off _ (by omega) (by omega)) (ps0_off (by decide) (by decide) (by decide)) (ps0_off (by decide) (by decide) (by decide)) hC.g
  · exact Cp_c (by intros; rw [off _ (by omega) (by omega)]) (by intros; rw [off _ (by omega) (by omega)]) (by intros; rw [off _ (by omega) (by omega)]) (by intros; exact off _ (by omega) (by omega)) (by intros; exact off _ (by omega) (by omega)) (by intros; exact off _ (by omega) (by omega)) (by rw [ps0_off (by decide) (by decide) (by decide)]) (by rw [ps0_off (by decide) (by decide) (by decide)]) (by rw [ps0_off (by decide) (by decide) (by decide)]) (ps0_off (by decide) (by decide) (by decide)) (ps0_off (by decide) (by decide) (by decide)) hC.p
  · exact Cd_c (by intros; rw [off _ (by omega) (by omega)]) (by intros; rw [off _ (by omega) (by omega)]) (by rw [ps0_off (by decide) (by decide) (by decide)]) hC.d
  · exact Cn_c (by intros; rw [off _ (by omega) (by omega)]) (by intros; rw [off _ (by omega) (by omega)]) (by intros; rw [off _ (by omega) (by omega)]) (by intros; exact off _ (by omega) (by omega)) (by rw [off 0 (by omega) (by omega)]; omega) (ps0_off (by decide) (by decide) (by decide)) (ps0_off (by decide) (by decide) (by decide)) (ps0_off (by decide) (by decide) (by decide)) hC.n
  · exact Cl_c (by intros; rw [off _ (by omega) (by omega)]) (by intros; rw [off _ (by omega) (by omega)]) (by intros; rw [off _ (by omega) (by omega)]) (by rw [off 0 (by omega) (by omega)]; omega) (by rw [ps0_off (by decide) (by decide) (by decide)]) (ps0_off (by decide) (by decide) (by decide)) hC.l
  · exact Cx_c (by intros; rw [off _ (by omega) (by omega)]) (by intros; exact off _ (by omega) (by omega)) (by rw [ps0_off (by decide) (by decide) (by decide)]) (ps0_off (by decide) (by decide) (by decide)) hC.x
set_option maxHeartbeats 4000000 in
theorem cr_chm {e r v : Int} (hC : CR ρ n σ h) (h0 : 0 ≤ e) (h1 : e < 4) (hG : ∀ x, 0 ≤ x → x < 4 → 0 ≤ σ 104 x ∧ σ 104 x ≤ 2) (off : ∀ a, a ≠ 52 + 10 * e → a ≠ 53 + 10 * e → a ≠ 54 + 10 * e → a ≠ 35 + 7 * (e % 2) → g a = h a) (g52 : g (52 + 10 * e) 2 = if σ 104 e = 2 then 2 else σ 104 e + 1) (g5 : ∀ x, x ≠ 2 → g (52 + 10 * e) x = h (52 + 10 * e) x) (gs3 : ∀ x, x < 0 → g (53 + 10 * e) x = h (53 + 10 * e) x) (gs4 : ∀ x, x < 0 → g (54 + 10 * e) x = h (54 + 10 * e) x) (g53 : ∀ i, 0 ≤ i → i < (if σ 104 e = 2 then 2 else σ 104 e + 1) → g (53 + 10 * e) i = F_chm e r v σ 105 (4 * e + 2 * i) ∧ g (54 + 10 * e) i = F_chm e r v σ 105 (4 * e + 2 * i + 1)) (g35 : g (35 + 7 * (e % 2)) 5 = h (35 + 7 * (e % 2)) 5 + 1) (g3 : ∀ x, x ≠ 5 → g (35 + 7 * (e % 2)) x = h (35 + 7 * (e % 2)) x) : CR ρ n (F_chm e r v σ) g := by
  have hb := hC.b
  refine ⟨?_, ?_, ?_, ?_, ?_, ?_, ?_, ?_, ?_, ?_, ?_, ?_, ?_, ?_⟩
  · exact CO_c (by intros; exact off _ (by omega) (by omega) (by omega) (by omega)) (by intros; exact off _ (by omega) (by omega) (by omega) (by omega)) (by intros; exact off _ (by omega) (by omega) (by omega) (by omega)) (by intros; rw [off _ (by omega) (by omega) (by omega) (by omega)]) hC.o
  · refine CT_of hC.T (fun b y b1 b2 hb => ?_)
    by_cases e1 : b = 52 + 10 * e
    · rw [e1]
      exact g5 y (by unfold Fx at hb; omega)
    · by_cases e2 : b = 53 + 10 * e
      · rw [e2]
        exact gs3 y (by unfold Fx at hb; omega)
      · by_cases e3 : b = 54 + 10 * e
        · rw [e3]
          exact gs4 y (by unfold Fx at hb; omega)
        · by_cases e5 : b = 35 + 7 * (e % 2)
          · rw [e5]
            exact g3 y (by unfold Fx at hb; omega)
          · rw [off b e1 e2 e3 e5]
  · exact CB_c (by omega) (by intros; rw [off _ (by omega) (by omega) (by omega) (by omega)]) (chm_off (by decide) (by decide) (by decide)) (chm_off (by decide) (by decide) (by decide)) hC.b
  · exact Cc_c (by intros; exact off _ (by omega) (by omega) (by omega) (by omega)) (chm_off (by decide) (by decide) (by decide)) hC.c
  · exact Ck_c (by intros; exact off _ (by omega) (by omega) (by omega) (by omega)) (chm_off (by decide) (by decide) (by decide)) (chm_off (by decide) (by decide) (by decide)) (chm_off (by decide) (by decide) (by decide)) hC.k
  · intro x x0 x1
    have hx := hC.e x x0 x1
    have hc := hG x x0 x1
    rw [off (49 + 10 * x) (by omega) (by omega) (by omega) (by omega), chm_104, chm_off (by decide) (by decide) (by decide), chm_off (by decide) (by decide) (by decide), chm_off (by decide) (by decide) (by decide), chm_off (by decide) (by decide) (by decide), chm_off (by decide) (by decide) (by decide), chm_off (by decide) (by decide) (by decide), chm_off (by decide) (by decide) (by decide), chm_off (by decide) (by decide) (by decide), chm_off (by decide) (by decide) (by decide), chm_off (by decide) (by decide) (by decide)]
    refine ⟨hx.1, hx.2.1, hx.2.2.1, hx.2.2.2.1, hx.2.2.2.2.1, hx.2.2.2.2.2.1, hx.2.2.2.2.2.2.1, hx.2.2.2.2.2.2.2.1, hx.2.2.2.2.2.2.2.2.1, hx.2.2.2.2.2.2.2.2.2.1, ?_⟩
    by_cases hy : x = e
    · subst hy
      rw [if_pos rfl]
      exact g52
    · rw [off (52 + 10 * x) (by omega) (by omega) (by omega) (by omega), if_neg hy]
      exact hx.2.2.2.2.2.2.2.2.2.2
  · exact Cw_c (by intros; exact off _ (by omega) (by omega) (by omega) (by omega)) (by intros; exact off _ (by omega) (by omega) (by omega) (by omega)) (chm_off (by decide) (by decide) (by decide)) (chm_off (by decide) (by decide) (by decide)) hC.w
  · exact Cr_c (by intros; exact off _ (by omega) (by omega) (by omega) (by omega)) (chm_off (by decide) (by decide) (by decide)) (chm_off (by decide) (by decide) (by decide)) hC.r
  · intro x i x0 x1 i0 i1
    have hc := hG x x0 x1
    rw [chm_104] at i1
    by_cases hy : x = e
    · subst hy
      rw [if_pos rfl] at i1
      exact g53 i i0 i1
    · rw [if_neg hy] at i1
      rw [off (53 + 10 * x) (by omega) (by omega) (by omega) (by omega), off (54 + 10 * x) (by omega) (by omega) (by omega) (by omega), chm_105o (hG e h0 h1).1 (hG e h0 h1).2 (by omega), chm_105o (hG e h0 h1).1 (hG e h0 h1).2 (by omega)]
      exact hC.g x i x0 x1 i0 i1
  · exact Cp_c (by intros; rw [off _ (by omega) (by omega) (by omega) (by omega)]) (by intros; rw [off _ (by omega) (by omega) (by omega) (by omega)]) (by intros; rw [off _ (by omega) (by omega) (by omega) (by omega)]) (by intros; exact off _ (by omega) (by omega) (by omega) (by omega)) (by intros; exact off _ (by omega) (by omega) (by omega) (by omega)) (by intros; exact off _ (by omega) (by omega) (by omega) (by omega)) (by rw [chm_89, if_neg (by decide)]) (by rw [chm_89, if_neg (by decide)]) (by rw [chm_89, if_neg (by decide)]) (chm_off (by decide) (by decide) (by decide)) (chm_off (by decide) (by decide) (by decide)) hC.p
  · obtain ⟨d1, d2, d3⟩ := hC.d
    rw [Cd, chm_89, if_pos rfl]
    rcases (show e % 2 = 0 ∨ e % 2 = 1 by omega) with q | q
    · rw [q] at g35 off
      have g35 : g 35 5 = h 35 5 + 1 := g35
      rw [g35, off 42 (by omega) (by omega) (by omega) (by omega)]
      omega
    · rw [q] at g35 off
      have g35 : g 42 5 = h 42 5 + 1 := g35
      rw [g35, off 35 (by omega) (by omega) (by omega) (by omega)]
      omega
  · exact Cn_c (fun j j0 j1 => (Decidable.em (j = e % 2)).elim (fun q => by rw [q]; exact g3 _ (by decide)) (fun q => by rw [off _ (by omega) (by omega) (by omega) (by omega)])) (fun j j0 j1 => (Decidable.em (j = e % 2)).elim (fun q => by rw [q]; exact g3 _ (by decide)) (fun q => by rw [off _ (by omega) (by omega) (by omega) (by omega)])) (fun j j0 j1 => (Decidable.em (j = e % 2)).elim (fun q => by rw [q]; exact g3 _ (by decide)) (fun q => by rw [off _ (by omega) (by omega) (by omega) (by omega)])) (by intros; exact off _ (by omega) (by omega) (by omega) (by omega)) (by rw [off 0 (by omega) (by omega) (by omega) (by omega)]; omega) (chm_off (by decide) (by decide) (by decide)) (chm_off (by decide) (by decide) (by decide)) (chm_off (by decide) (by decide) (by decide)) hC.n
  · exact Cl_c (by intros; rw [off _ (by omega) (by omega) (by omega) (by omega)]) (by intros; rw [off _ (by omega) (by omega) (by omega) (by omega)]) (by intros; rw [off _ (by omega) (by omega) (by omega) (by omega)]) (by rw [off 0 (by omega) (by omega) (by omega) (by omega)]; omega) (by rw [chm_89, if_neg (by decide)]) (chm_off (by decide) (by decide) (by decide)) hC.l
  · exact Cx_c (by intros; rw [off _ (by omega) (by omega) (by omega) (by omega)]) (by intros; exact off _ (by omega) (by omega) (by omega) (by omega)) (by rw [chm_89, if_neg (by decide)]) (chm_off (by decide) (by decide) (by decide)) hC.x
set_option maxHeartbeats 4000000 in
theorem cr_anew {e s : Int} (hC : CR ρ n σ h) (h0 : 0 ≤ e) (h1 : e < 4) (hz : ∀ x, 0 ≤ x → x < 4 → 0 ≤ σ 99 x ∧ σ 99 x ≤ 3) (off : ∀ a, a ≠ 49 + 10 * e → a ≠ 52 + 10 * e → g a = h a) (g6 : g (49 + 10 * e) 6 = s) (g7 : g (49 + 10 * e) 7 = 0) (g8 : g (49 + 10 * e) 8 = 0) (g9 : g (49 + 10 * e) 9 = 0) (g10 : g (49 + 10 * e) 10 = 0) (g11 : g (49 + 10 * e) 11 = 0) (g12 : g (49 + 10 * e) 12 = 0) (g13 : g (49 + 10 * e) 13 = 0) (g4 : ∀ x, x < 6 ∨ 13 < x → g (49 + 10 * e) x = h (49 + 10 * e) x) (g52 : g (52 + 10 * e) 2 = 0) (g5 : ∀ x, x ≠ 2 → g (52 + 10 * e) x = h (52 + 10 * e) x) : CR ρ n (F_anew e s σ) g := by
  have hb := hC.b
  have hz2 := hz e h0 h1
  refine ⟨?_, ?_, ?_, ?_, ?_, ?_, ?_, ?_, ?_, ?_, ?_, ?_, ?_, ?_⟩
  · exact CO_c (by intros; exact off _ (by omega) (by omega)) (by intros; exact off _ (by omega) (by omega)) (by intros; exact off _ (by omega) (by omega)) (by intros; rw [off _ (by omega) (by omega)]) hC.o
  · refine CT_of hC.T (fun b y b1 b2 hb => ?_)
    by_cases e1 : b = 49 + 10 * e
    · rw [e1]
      exact g4 y (by unfold Fx at hb; omega)
    · by_cases e2 : b = 52 + 10 * e
      · rw [e2]
        exact g5 y (by unfold Fx at hb; omega)
      · rw [off b e1 e2]
  · have hw := hC.w e h0 h1
    rw [CB, off 0 (by omega) (by omega)]
    simp only [anew_v (a := 96) (by decide), anew_v (a := 99) (by decide)]
    rcases (show e = 0 ∨ e = 1 ∨ e = 2 ∨ e = 3 by omega) with rfl | rfl | rfl | rfl <;> simp (disch := omega) only [if_neg, if_pos] <;> omega
  · exact Cc_c (by intros; exact off _ (by omega) (by omega)) (anew_off (by decide)) hC.c
  · exact Ck_c (by intros; exact off _ (by omega) (by omega)) (anew_off (by decide)) (anew_off (by decide)) (anew_off (by decide)) hC.k
  · intro x x0 x1
    have hx := hC.e x x0 x1
    rw [anew_v (a := 94) (by decide), anew_v (a := 95) (by decide), anew_v (a := 96) (by decide), anew_v (a := 98) (by decide), anew_v (a := 99) (by decide), anew_v (a := 101) (by decide), anew_v (a := 102) (by decide), anew_v (a := 103) (by decide), anew_v (a := 104) (by decide), anew_off (by decide), anew_off (by decide)]
    by_cases hy : x = e
    · subst hy
      rw [g6, g7, g8, g9, g10, g11, g12, g13, g52, g4 14 (by omega), g4 15 (by omega)]
      simp only [if_true]
      refine ⟨?_, ?_, ?_, ?_, ?_, ?_, ?_, ?_, hx.2.2.2.2.2.2.2.2.1, hx.2.2.2.2.2.2.2.2.2.1, ?_⟩ <;> simp
    · rw [off (49 + 10 * x) (by omega) (by omega), off (52 + 10 * x) (by omega) (by omega)]
      simp only [if_neg hy]
      exact hx
  · intro x x0 x1
    obtain ⟨k1, k2, k3, k4⟩ := hC.w x x0 x1
    rw [off (50 + 10 * x) (by omega) (by omega), anew_v (a := 96) (by decide), anew_off (a := 97) (by decide)]
    by_cases hy : x = e
    · rw [if_pos hy, if_neg (by decide)]
      exact ⟨⟨by decide, by decide, by show (0 : Int) ≤ 2; decide⟩, k2, k3, fun i y i0 i1 => by omega⟩
    · rw [if_neg hy, pc_c (σ := σ) (anew_off (by decide))]
      refine ⟨k1, k2, k3, fun i y i0 i1 y0 y1 => ?_⟩
      have hq := k2 i i0 (by omega)
      rw [off _ (by omega) (by omega)]
      exact k4 i y i0 i1 y0 y1
  · intro x i x0 x1 i0 i1
    rw [anew_v (a := 99) (by decide)] at i1
    by_cases hy : x = e
    · rw [if_pos hy, if_neg (by decide)] at i1
      omega
    · rw [if_neg hy] at i1
      rw [off _ (by omega) (by omega), anew_off (by decide)]
      exact hC.r x i x0 x1 i0 i1
  · intro x i x0 x1 i0 i1
    rw [anew_v (a := 104) (by decide)] at i1
    by_cases hy : x = e
    · rw [if_pos hy, if_neg (by decide)] at i1
      omega
    · rw [if_neg hy] at i1
      rw [off _ (by omega) (by omega), off _ (by omega) (by omega), anew_off (by decide)]
      exact hC.g x i x0 x1 i0 i1
  · exact Cp_c (by intros; rw [off _ (by omega) (by omega)]) (by intros; rw [off _ (by omega) (by omega)]) (by intros; rw [off _ (by omega) (by omega)]) (by intros; exact off _ (by omega) (by omega)) (by intros; exact off _ (by omega) (by omega)) (by intros; exact off _ (by omega) (by omega)) (by rw [anew_off (by decide)]) (by rw [anew_off (by decide)]) (by rw [anew_off (by decide)]) (anew_off (by decide)) (anew_off (by decide)) hC.p
  · exact Cd_c (by intros; rw [off _ (by omega) (by omega)]) (by intros; rw [off _ (by omega) (by omega)]) (by rw [anew_off (by decide)]) hC.d
  · exact Cn_c (by intros; rw [off _ (by omega) (by omega)]) (by intros; rw [off _ (by omega) (by omega)]) (by intros; rw [off _ (by omega) (by omega)]) (by intros; exact off _ (by omega) (by omega)) (by rw [off 0 (by omega) (by omega)]; omega) (anew_off (by decide)) (anew_off (by decide)) (anew_off (by decide)) hC.n
  · exact Cl_c (by intros; rw [off _ (by omega) (by omega)]) (by intros; rw [off _ (by omega) (by omega)]) (by intros; rw [off _ (by omega) (by omega)]) (by rw [off 0 (by omega) (by omega)]; omega) (by rw [anew_off (by decide)]) (anew_off (by decide)) hC.l
  · exact Cx_c (by intros; rw [off _ (by omega) (by omega)]) (by intros; exact off _ (by omega) (by omega)) (by rw [anew_off (by decide)]) (anew_off (by decide)) hC.x
end CW
