/-! the class: work is posted -/
section K9
variable {G : GG} {b : Nat × Nat} {Q : Option VV → Hp → Prop} {ρ σ h : Hp} {n : Int}
set_option maxHeartbeats 4000000 in
theorem Lk_fetch {e m m' : Int} (hC : CR ρ n σ h) (hI : IV σ m m') (h0 : 0 ≤ e) (h1 : e < 4) (hk : Q (some (vI (pc e σ (σ 96 e).toNat))) h) : ∀ (j i : Nat), (i : Int) + j = σ 96 e → AW G mm_X1_openFetches b 4 [(0, vR (49 + 10 * e)), (1, vI (pc e σ i)), (2, vI (i : Int))] [] h Q := by
  have hT := hC.T
  have hE := hC.e
  obtain ⟨w1, w2, w3, w4⟩ := hC.w e h0 h1
  intro j
  induction j with
  | zero =>
    intro i hi
    refine sg_X1_openFetches_4 ?_
    simp (disch := omega) only [hT, hE, true_and]
    refine ⟨fun _ => ?_, fun q => by omega⟩
    rw [show (σ 96 e).toNat = i by omega] at hk
    exact hk
  | succ j ih =>
    intro i hi
    have e1 : pc e σ (i + 1) = pc e σ i + (if σ 97 (28 * e + 7 * i + 1) ≤ 1 then 0 else 1) := rfl
    have kb := pc_in (e := e) (σ := σ) i
    have ihk := ih (i + 1) (by omega)
    rw [e1, show ((i + 1 : Nat) : Int) = (i : Int) + 1 from rfl] at ihk
    have wi := w2 i (by omega) (by omega)
    have ws : h (h (50 + 10 * e) i) (-1) = 9 := hT.2.2.2.2.2.2.2.2.2.2 _ (by omega) (by omega) (by omega)
    have a1 := w4 i 1 (by omega) (by omega) (by decide) (by decide)
    have hW := (hI.w e i h0 h1 (by omega) (by omega)).2.1
    refine sg_X1_openFetches_4 ?_
    simp (disch := omega) only [hT, hE, true_and, ws, a1, inI]
    refine ⟨fun q => by omega, fun _ => ⟨by omega, by omega, fun q => ⟨by omega, ?_⟩, fun q => ⟨by omega, by omega, ?_⟩⟩⟩
    · rw [if_pos (by omega), Int.add_zero] at ihk
      exact ihk
    · rw [if_neg (by omega)] at ihk
      exact ihk
theorem K_fetch {e m m' : Int} (hC : CR ρ n σ h) (hI : IV σ m m') (h0 : 0 ≤ e) (h1 : e < 4) (hk : Q (some (vI (pc e σ (σ 96 e).toNat))) h) : Runs G mm_X1_openFetches [vR (49 + 10 * e)] h Q :=
  rn_X1_openFetches (Lk_fetch hC hI h0 h1 hk (σ 96 e).toNat 0 (by have := (hC.w e h0 h1).1; omega))
set_option maxHeartbeats 4000000 in
theorem K_postw {e k v w c m m' : Int} (hC : CR ρ n σ h) (hI : IV σ m m') (hmn : m ≤ 511) (h0 : 0 ≤ e) (h1 : e < 4) (ho : σ 96 e < 4) (hpc : k ≤ 1 ∨ pc e σ (σ 96 e).toNat < 2) (k0 : 0 ≤ k) (k1 : k ≤ 4) (v0 : 0 ≤ v) (v1 : v ≤ 9999) (u0 : 0 ≤ w) (u1 : w ≤ 9999) (c0 : 0 ≤ c) (c1 : c ≤ 11) (hk : ∀ g, CR ρ (n + 1) (F_sw e (σ 96 e) (F_ps0 e k v w c σ)) g → Q (some (vI (σ 95 e))) g) : Runs G mm_X1_request [vR (49 + 10 * e), vR (h (50 + 10 * e) (σ 96 e))] (wr (wr (wr (wr (wr (wr (wr (wr (wr h (49 + 10 * e) 8 (σ 96 e + 1)) (h (50 + 10 * e) (σ 96 e)) 0 (σ 95 e)) (49 + 10 * e) 7 (σ 95 e + 1)) (h (50 + 10 * e) (σ 96 e)) 1 k) (h (50 + 10 * e) (σ 96 e)) 2 (σ 106 e)) (h (50 + 10 * e) (σ 96 e)) 3 (σ 107 e)) (h (50 + 10 * e) (σ 96 e)) 4 v) (h (50 + 10 * e) (σ 96 e)) 5 w) (h (50 + 10 * e) (σ 96 e)) 6 c) (fun r h' => AW G mm_X1_postWork b 128 [(5, vR (h (50 + 10 * e) (σ 96 e)))] (r.toList ++ []) h' Q) := by
  obtain ⟨w1, w2, w3, w4⟩ := hC.w e h0 h1
  have wi := w2 (σ 96 e) (by omega) (by omega)
  have hD : CR ρ (n + 1) (F_ps0 e k v w c σ) (wr (wr (wr (wr (wr (wr (wr (wr (wr h (49 + 10 * e) 8 (σ 96 e + 1)) (h (50 + 10 * e) (σ 96 e)) 0 (σ 95 e)) (49 + 10 * e) 7 (σ 95 e + 1)) (h (50 + 10 * e) (σ 96 e)) 1 k) (h (50 + 10 * e) (σ 96 e)) 2 (σ 106 e)) (h (50 + 10 * e) (σ 96 e)) 3 (σ 107 e)) (h (50 + 10 * e) (σ 96 e)) 4 v) (h (50 + 10 * e) (σ 96 e)) 5 w) (h (50 + 10 * e) (σ 96 e)) 6 c) := by
    refine cr_post hC h0 h1 ho hpc rfl (fun a a1 a2 => ?_) ?_ ?_ (fun x x1 x2 => ?_) (fun x x1 => ?_) ?_ ?_ ?_ ?_ ?_ ?_ ?_
    · simp only [wr_off a1, wr_off a2]
    all_goals simp (disch := omega) only [wr_a, wr_k, wr_e]
  have row : wr (wr (wr (wr (wr (wr (wr (wr (wr h (49 + 10 * e) 8 (σ 96 e + 1)) (h (50 + 10 * e) (σ 96 e)) 0 (σ 95 e)) (49 + 10 * e) 7 (σ 95 e + 1)) (h (50 + 10 * e) (σ 96 e)) 1 k) (h (50 + 10 * e) (σ 96 e)) 2 (σ 106 e)) (h (50 + 10 * e) (σ 96 e)) 3 (σ 107 e)) (h (50 + 10 * e) (σ 96 e)) 4 v) (h (50 + 10 * e) (σ 96 e)) 5 w) (h (50 + 10 * e) (σ 96 e)) 6 c (50 + 10 * e) (σ 96 e) = h (50 + 10 * e) (σ 96 e) := by
    simp (disch := omega) only [wr_a]
  have hI2 := iv_ps0 (k := k) (v := v) (w := w) (c := c) hI hmn h0 h1 ho k0 k1 v0 v1 u0 u1 c0 c1
  have K := K_req (G := G) (i := σ 96 e) (Q := fun r h' => AW G mm_X1_postWork b 128 [(5, vR (h (50 + 10 * e) (σ 96 e)))] (r.toList ++ []) h' Q) hD hI2 h0 h1 w1.1 (by rw [ps0_96, if_pos rfl]; omega) (fun g hg hrow => by
    obtain ⟨x1, x2, x3, x4⟩ := hg.w e h0 h1
    have r50 : g (50 + 10 * e) (σ 96 e) = h (50 + 10 * e) (σ 96 e) := by
      rw [hrow (50 + 10 * e) (by omega) (by omega)]
      exact row
    have o96 : F_sw e (σ 96 e) (F_ps0 e k v w c σ) 96 e = σ 96 e + 1 := by
      unfold F_sw
      rw [snd_off (by decide) (by decide), ps0_96, if_pos rfl]
    have x5 := x4 (σ 96 e) 0 w1.1 (by omega) (by decide) (by decide)
    rw [r50] at x5
    have o97 : F_sw e (σ 96 e) (F_ps0 e k v w c σ) 97 (28 * e + 7 * σ 96 e + 0) = σ 95 e := by
      unfold F_sw
      rw [snd_off (by decide) (by decide), show 28 * e + 7 * σ 96 e + 0 = 7 * (4 * e + σ 96 e) by omega]
      exact ps0_97.1
    refine sg_X1_postWork_128 ⟨hg.T.2.2.2.2.2.2.2.2.2.2 _ (by omega) (by omega) (by omega), ?_⟩
    rw [x5, o97]
    exact hk g hg)
  rw [row] at K
  exact K
set_option maxHeartbeats 4000000 in
theorem K_post {e k v w c m m' : Int} (hC : CR ρ n σ h) (hI : IV σ m m') (hmn : m ≤ 511) (h0 : 0 ≤ e) (h1 : e < 4) (k0 : 0 ≤ k) (k1 : k ≤ 4) (v0 : 0 ≤ v) (v1 : v ≤ 9999) (u0 : 0 ≤ w) (u1 : w ≤ 9999) (c0 : 0 ≤ c) (c1 : c ≤ 11) (hk : ∀ g, CR ρ (n + 1) (F_pst e k v w c σ) g → Q (some (vI (A_pst e k σ))) g) : Runs G mm_X1_postWork [vR (49 + 10 * e), vI k, vI v, vI w, vI c] h Q := by
  have hT := hC.T
  have hE := hC.e
  obtain ⟨w1, w2, w3, w4⟩ := hC.w e h0 h1
  have hJ := hI.e e h0 h1
  have hN := hI.n
  unfold F_pst A_pst psn at hk
  refine rn_X1_postWork ?_
  simp (disch := omega) only [hT, hE, true_and, forall_eq, inI]
  refine ⟨fun q => ⟨fun q2 => ?_, fun q2 => ⟨fun q3 => ⟨by omega, by omega, by omega, ?_, by omega, ?_⟩, fun q3 => ?_⟩⟩, fun q => ?_⟩
  · rw [if_neg (show ¬ ¬ σ 94 e = 1 by omega), if_pos (show σ 96 e = 4 by omega)] at hk
    exact hk h (hC.up (by omega))
  · have wi := w2 (σ 96 e) (by omega) (by omega)
    exact hT.2.2.2.2.2.2.2.2.2.2 _ (by omega) (by omega) (by omega)
  · rw [if_neg (show ¬ ¬ σ 94 e = 1 by omega), if_neg (show ¬ σ 96 e = 4 by omega), if_neg (show ¬ (¬ k ≤ 1 ∧ pc e σ (σ 96 e).toNat = 2) by omega)] at hk
    exact K_postw hC hI hmn h0 h1 (by omega) (Or.inl (by omega)) k0 k1 v0 v1 u0 u1 c0 c1 hk
  · refine K_fetch hC hI h0 h1 ?_
    refine sg_X1_postWork_31 ?_
    simp (disch := omega) only [hT, hE, true_and, forall_eq, inI]
    refine ⟨fun q4 => ⟨by omega, by omega, by omega, ?_, by omega, ?_⟩, fun q4 => ?_⟩
    · have wi := w2 (σ 96 e) (by omega) (by omega)
      exact hT.2.2.2.2.2.2.2.2.2.2 _ (by omega) (by omega) (by omega)
    · rw [if_neg (show ¬ ¬ σ 94 e = 1 by omega), if_neg (show ¬ σ 96 e = 4 by omega), if_neg (show ¬ (¬ k ≤ 1 ∧ pc e σ (σ 96 e).toNat = 2) by omega)] at hk
      exact K_postw hC hI hmn h0 h1 (by omega) (Or.inr q4) k0 k1 v0 v1 u0 u1 c0 c1 hk
    · rw [if_neg (show ¬ ¬ σ 94 e = 1 by omega), if_neg (show ¬ σ 96 e = 4 by omega), if_pos (show ¬ k ≤ 1 ∧ pc e σ (σ 96 e).toNat = 2 by omega)] at hk
      exact hk h (hC.up (by omega))
  · rw [if_pos q] at hk
    exact hk h (hC.up (by omega))
end K9
