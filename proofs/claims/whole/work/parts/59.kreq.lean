/-! the class: a request comes -/
section K5
variable {G : GG} {b : Nat × Nat} {Q : Option VV → Hp → Prop} {ρ σ h : Hp} {n : Int}
theorem hg_of {σ : Hp} {n m : Int} (hI : IV σ n m) : ∀ x, 0 ≤ x → x < 4 → 0 ≤ σ 104 x ∧ σ 104 x ≤ 2 := fun x x0 x1 => (hI.e x x0 x1).2.2.2.2.2.2.2.2.1
set_option maxHeartbeats 4000000 in
theorem K_rem {e r v : Int} (hC : CR ρ n σ h) (hG : ∀ x, 0 ≤ x → x < 4 → 0 ≤ σ 104 x ∧ σ 104 x ≤ 2) (h0 : 0 ≤ e) (h1 : e < 4) (hk : ∀ g, (∀ a, a ≠ 52 + 10 * e → a ≠ 53 + 10 * e → a ≠ 54 + 10 * e → g a = h a) → g (52 + 10 * e) 2 = (if σ 104 e = 2 then 2 else σ 104 e + 1) → (∀ x, x ≠ 2 → g (52 + 10 * e) x = h (52 + 10 * e) x) → (∀ x, x < 0 → g (53 + 10 * e) x = h (53 + 10 * e) x) → (∀ x, x < 0 → g (54 + 10 * e) x = h (54 + 10 * e) x) → (∀ i, 0 ≤ i → i < (if σ 104 e = 2 then 2 else σ 104 e + 1) → g (53 + 10 * e) i = F_chm e r v σ 105 (4 * e + 2 * i) ∧ g (54 + 10 * e) i = F_chm e r v σ 105 (4 * e + 2 * i + 1)) → Q none g) : Runs G mm_X0_remember [vR (52 + 10 * e), vI r, vI v] h Q := by
  have hT := hC.T
  have hE := hC.e
  have hc := hG e h0 h1
  refine rn_X0_remember ?_
  by_cases h2 : σ 104 e = 2
  · have c0 := hC.g e 0 h0 h1 (by decide) (by omega)
    have c1 := hC.g e 1 h0 h1 (by decide) (by omega)
    obtain ⟨f0, f1, f2, f3⟩ := chm_2 (r := r) (v := v) h2
    rw [show 4 * e + 2 * 1 = 4 * e + 2 by omega, show 4 * e + 2 + 1 = 4 * e + 3 by omega] at c1
    simp (disch := omega) only [hT, hE, true_and]
    refine ⟨fun q => by omega, fun _ => ?_⟩
    refine sg_X0_remember_10 ?_
    simp (disch := omega) only [hT, hE, true_and, forall_eq, wr_a, h2, inI, Int.sub_self]
    refine ⟨fun q => by omega, fun _ => ⟨by omega, by omega, by omega, by omega, by omega, by omega, by omega, by omega, ?_⟩⟩
    refine sg_X0_remember_10 ?_
    simp (disch := omega) only [hT, hE, true_and, forall_eq, wr_a, wr_s, wr_l, h2, inI, show (2 : Int) - 1 = 1 from rfl, show (1 : Int) + 1 = 2 from rfl]
    refine ⟨fun _ => ⟨by omega, by omega, by omega, by omega, by omega, hk _ (fun a a1 a2 a3 => ?_) ?_ (fun x hx => ?_) (fun x hx => ?_) (fun x hx => ?_) (fun i i0 i1 => ?_)⟩, fun q => by omega⟩
    · simp only [wr_off a1, wr_off a2, wr_off a3]
    · rw [if_pos h2, wr_e]
    · simp (disch := omega) only [wr_k, wr_a]
    · simp (disch := omega) only [wr_k, wr_a]
    · simp (disch := omega) only [wr_k, wr_a]
    · rw [if_pos h2] at i1
      rcases (show i = 0 ∨ i = 1 by omega) with rfl | rfl
      · rw [show 4 * e + 2 * 0 = 4 * e by omega, f0, f1]
        simp (disch := omega) only [wr_k, wr_a, wr_e]
        exact c1
      · rw [show 4 * e + 2 * 1 = 4 * e + 2 by omega, show 4 * e + 2 + 1 = 4 * e + 3 by omega, f2, f3]
        simp (disch := omega) only [wr_k, wr_a, wr_e]
        decide
  · simp (disch := omega) only [hT, hE, true_and, forall_eq, wr_a, wr_s, wr_l, inI]
    refine ⟨fun _ => ⟨by omega, by omega, by omega, by omega, hk _ (fun a a1 a2 a3 => ?_) ?_ (fun x hx => ?_) (fun x hx => ?_) (fun x hx => ?_) (fun i i0 i1 => ?_)⟩, fun q => absurd q h2⟩
    · simp only [wr_off a1, wr_off a2, wr_off a3]
    · rw [if_neg h2, wr_e]
    · simp (disch := omega) only [wr_k, wr_a]
    · simp (disch := omega) only [wr_k, wr_a]
    · simp (disch := omega) only [wr_k, wr_a]
    · rw [if_neg h2] at i1
      by_cases hi : i = σ 104 e
      · subst hi
        simp (disch := omega) only [wr_k, wr_a, wr_e]
        rcases (show σ 104 e = 0 ∨ σ 104 e = 1 by omega) with z | z
        · obtain ⟨f0, f1⟩ := chm_0 (r := r) (v := v) z
          rw [z, show 4 * e + 2 * 0 = 4 * e by omega, f0, f1]
          exact ⟨rfl, rfl⟩
        · obtain ⟨f0, f1, f2, f3⟩ := chm_1 (r := r) (v := v) z
          rw [z, show 4 * e + 2 * 1 = 4 * e + 2 by omega, show 4 * e + 2 + 1 = 4 * e + 3 by omega, f2, f3]
          exact ⟨rfl, rfl⟩
      · have ci := hC.g e i h0 h1 i0 (by omega)
        obtain ⟨f0, f1, f2, f3⟩ := chm_1 (e := e) (r := r) (v := v) (σ := σ) (by omega)
        have hi0 : i = 0 := by omega
        subst hi0
        simp (disch := omega) only [wr_k, wr_a]
        rw [show 4 * e + 2 * 0 = 4 * e by omega] at ci ⊢
        rw [f0, f1]
        exact ci
set_option maxHeartbeats 4000000 in
theorem K_rem8 {e r v : Int} (hC : CR ρ n σ h) (hG : ∀ x, 0 ≤ x → x < 4 → 0 ≤ σ 104 x ∧ σ 104 x ≤ 2) (hd : σ 89 28 ≤ 1000) (h0 : 0 ≤ e) (h1 : e < 4) (hk : ∀ g, CR ρ n (F_chm e r v σ) g → Q (some (vI v)) g) : Runs G mm_X0_remember [vR (52 + 10 * e), vI r, vI v] h (fun r' h' => AW G mm_X1_reach b 158 [(0, vR (49 + 10 * e)), (4, vI v)] (r'.toList ++ []) h' Q) := by
  have hT := hC.T
  obtain ⟨d1, d2, d3⟩ := hC.d
  have hd5 : 0 ≤ h (35 + 7 * (e % 2)) 5 ∧ h (35 + 7 * (e % 2)) 5 ≤ 1000 := by
    rcases (show e % 2 = 0 ∨ e % 2 = 1 by omega) with q | q
    · rw [q]
      show 0 ≤ h 35 5 ∧ h 35 5 ≤ 1000
      omega
    · rw [q]
      show 0 ≤ h 42 5 ∧ h 42 5 ≤ 1000
      omega
  refine K_rem (r := r) (v := v) hC hG h0 h1 (fun g f1 f2 f3 f4 f5 f6 => ?_)
  have s1 : g (49 + 10 * e) = h (49 + 10 * e) := f1 _ (by omega) (by omega) (by omega)
  have s2 : g (35 + 7 * (e % 2)) = h (35 + 7 * (e % 2)) := f1 _ (by omega) (by omega) (by omega)
  refine sg_X1_reach_158 ?_
  rw [s1]
  simp (disch := omega) only [hT, true_and, forall_eq, inI, s2]
  refine ⟨by omega, hk _ ?_⟩
  refine cr_chm hC h0 h1 hG (fun a a1 a2 a3 a4 => ?_) ?_ (fun x hx => ?_) (fun x hx => ?_) (fun x hx => ?_) (fun i i0 i1 => ?_) ?_ (fun x hx => ?_)
  · rw [wr_off a4]
    exact f1 a a1 a2 a3
  · rw [wr_a (by omega)]
    exact f2
  · rw [wr_a (by omega)]
    exact f3 x hx
  · rw [wr_a (by omega)]
    exact f4 x hx
  · rw [wr_a (by omega)]
    exact f5 x hx
  · rw [wr_a (by omega), wr_a (by omega)]
    exact f6 i i0 i1
  · rw [wr_e]
  · rw [wr_k hx, s2]
set_option maxHeartbeats 4000000 in
theorem K_reason {e m m' : Int} (hC : CR ρ n σ h) (hI : IV σ m m') (h0 : 0 ≤ e) (h1 : e < 4) (hM : CM σ ρ) (ht : σ 117 1 = 0) (hc : Co σ) (hk : Q (some (vI (rsn (kk e σ) (σ 117 5) (σ 117 3) σ))) h) : Runs G mm_X1_reasonAgainst [vR (49 + 10 * e), vR 6] h Q := by
  have hT := hC.T
  have o6 := hC.o.2
  obtain ⟨m0, m9, m1, m2, m8, mR⟩ := hM
  obtain ⟨m3, m4, m5, m6, m7⟩ := mR ht
  obtain ⟨c4, c5, c6, c7⟩ := hc
  have kR := hC.k (e % 2) (σ 117 4) (by omega) (by omega) (by omega) (by omega)
  unfold rsn kk at hk
  refine rn_X1_reasonAgainst ?_
  simp (disch := omega) only [hT, true_and, o6, m3, m4, m5]
  refine ⟨by omega, by omega, fun q => ?_, fun q => ?_⟩
  · have hz : ¬ σ 92 (4 * (e % 2) + σ 117 4) = 0 := fun z => q (kR.1 z)
    obtain ⟨k0, k1, k2, k3⟩ := kR.2 hz
    rw [if_neg hz] at hk
    rw [k2, k3]
    refine ⟨fun q2 => ?_, fun q2 => ?_⟩
    · rw [if_neg (by omega)] at hk
      refine rn_X1_rightFor ⟨fun p1 => ⟨fun p2 => ?_, fun p2 => ?_⟩, fun p1 => ?_⟩
      · rw [if_neg p2, if_neg p1] at hk
        refine sg_X1_reasonAgainst_46 ⟨fun z => ?_, fun z => ?_⟩
        · rw [if_neg z] at hk; exact hk
        · rw [if_pos z] at hk; exact hk
      · rw [if_pos p2] at hk
        refine sg_X1_reasonAgainst_46 ⟨fun z => ?_, fun z => ?_⟩
        · rw [if_neg z] at hk; exact hk
        · rw [if_pos z] at hk; exact hk
      · rw [if_neg (show ¬ σ 117 3 = 1 by omega), if_pos p1] at hk
        refine sg_X1_reasonAgainst_46 ⟨fun z => ?_, fun z => ?_⟩
        · rw [if_neg z] at hk; exact hk
        · rw [if_pos z] at hk; exact hk
    · rw [if_pos q2] at hk
      exact hk
  · have hz : σ 92 (4 * (e % 2) + σ 117 4) = 0 := Decidable.byContradiction (fun z => by have := (kR.2 z).1; omega)
    rw [if_pos hz] at hk
    exact hk
theorem rsn_0 {κ off k : Int} {σ : Hp} (hr : rsn κ off k σ ≤ 0) : ¬ σ 92 κ = 0 := by
  unfold rsn at hr
  intro h
  rw [if_pos h] at hr
  omega
set_option maxHeartbeats 8000000 in
theorem K_reach {e m m' : Int} (hC : CR ρ n σ h) (hI : IV σ m m') (hm : m' ≤ 99990) (h0 : 0 ≤ e) (h1 : e < 4) (hn : n ≤ 990) (hM : CM σ ρ) (ht : σ 117 1 = 0) (hc : Co σ) (h3 : 1 ≤ σ 117 3 ∧ σ 117 3 ≤ 4) (hr : 0 ≤ σ 117 2 ∧ σ 117 2 ≤ m) (hkD : ¬ rsn (kk e σ) (σ 117 5) (σ 117 3) σ ≤ 0 → ∀ g, CR ρ n (F_brk e (F_snd e 4 (σ 117 2) (rsn (kk e σ) (σ 117 5) (σ 117 3) σ) (-1) σ)) g → Q (some (vI (-1))) g) (hkO : rsn (kk e σ) (σ 117 5) (σ 117 3) σ ≤ 0 → ∀ g, CR ρ n (if σ 117 3 ≤ 2 then F_a1 e (σ 117 3) σ else F_chm e (σ 117 2) (σ 90 (ka e σ)) (F_a1 e (σ 117 3) σ)) g → Q (some (vI (if σ 117 3 = 1 then 0 else σ 90 (ka e σ)))) g) : Runs G mm_X1_reach [vR (49 + 10 * e), vR 6] h Q := by
  have hT := hC.T
  have o6 := hC.o.2
  have hM2 := hM
  obtain ⟨m0, m9, m1, m2, m8, mR⟩ := hM
  obtain ⟨m3, m4, m5, m6, m7⟩ := mR ht
  have hc2 := hc
  obtain ⟨c4, c5, c6, c7⟩ := hc
  have kR := hC.k (e % 2) (σ 117 4) (by omega) (by omega) (by omega) (by omega)
  have rin := rsn_in (κ := kk e σ) (off := σ 117 5) (k := σ 117 3) (σ := σ)
  have hN := hI.n
  have hD := hI.q.2.2.2.1
  refine rn_X1_reach ⟨sh2 hT h0 h1, ?_⟩
  refine K_reason hC hI h0 h1 hM2 ht hc2 ?_
  refine sg_X1_reach_5 ⟨fun q => ?_, fun q => ?_⟩
  · have hy : rsn (kk e σ) (σ 117 5) (σ 117 3) σ ≤ 0 := by omega
    have hkO := hkO hy
    obtain ⟨k0, k1, k2, k3⟩ := kR.2 (rsn_0 hy)
    have rok := rsn_ok hI.k (by unfold kk; omega) (by unfold kk; omega) c5.1 hy
    have hka : ka e σ = 12 * (e % 2) + (σ 91 (4 * (e % 2) + σ 117 4) + σ 117 5) := by
      unfold ka kk
      omega
    have rok2 : 0 ≤ σ 91 (4 * (e % 2) + σ 117 4) ∧ σ 91 (4 * (e % 2) + σ 117 4) + σ 117 5 < 12 := rok
    have cv := hC.c (e % 2) (σ 91 (4 * (e % 2) + σ 117 4) + σ 117 5) (by omega) (by omega) (by omega) (by omega)
    rw [← hka] at cv
    have cb := hI.c (ka e σ) (by omega) (by omega)
    have cw : ∀ w, CR ρ n (wr σ 90 (ka e σ) w) (wr h (36 + 7 * (e % 2)) (σ 91 (4 * (e % 2) + σ 117 4) + σ 117 5) w) := fun w => by
      rw [hka]
      exact cr_cell hC (by omega) (by omega) (by omega) (by omega)
    unfold F_a1 at hkO
    simp (disch := omega) only [hT, true_and, o6, m2, m3, m4, m5, m6, m7, k1, cv, forall_eq, inI, wr_s, wr_a]
    refine ⟨by omega, by omega, by omega, by omega, by omega, fun p2 => ⟨fun p1 => ⟨fun p3 => ⟨fun p4 => ?_, fun p4 => ?_⟩, fun p3 => ⟨by omega, by omega, ?_⟩⟩, fun p1 => ?_⟩, fun p2 => ?_⟩
    · simp only [if_neg p1, if_neg p3, if_neg (show ¬ (σ 117 3 = 4 ∧ σ 90 (ka e σ) = σ 117 6) by omega), if_neg (show ¬ σ 117 3 ≤ 2 by omega)] at hkO
      exact K_rem8 hC (hg_of hI) (by omega) h0 h1 hkO
    · simp only [if_neg p1, if_neg p3, if_pos (show σ 117 3 = 4 ∧ σ 90 (ka e σ) = σ 117 6 by omega), if_neg (show ¬ σ 117 3 ≤ 2 by omega)] at hkO
      exact K_rem8 (cw _) (by rw [wr_off (by decide)]; exact hg_of hI) (by rw [wr_a (by decide)]; omega) h0 h1 hkO
    · simp only [if_neg p1, if_pos p3, if_neg (show ¬ σ 117 3 ≤ 2 by omega)] at hkO
      exact K_rem8 (cw _) (by rw [wr_off (by decide)]; exact hg_of hI) (by rw [wr_a (by decide)]; omega) h0 h1 hkO
    · simp only [if_pos p1, if_pos (show σ 117 3 ≤ 2 by omega)] at hkO
      exact hkO _ (cw _)
    · simp only [if_neg (show ¬ σ 117 3 = 1 by omega), if_neg (show ¬ σ 117 3 = 3 by omega), if_neg (show ¬ (σ 117 3 = 4 ∧ σ 90 (ka e σ) = σ 117 6) by omega), if_pos (show σ 117 3 ≤ 2 by omega)] at hkO
      exact hkO _ hC
  · have hkD := hkD (by omega)
    rw [show h 6 3 = σ 117 2 by rw [o6, m2]]
    refine ⟨hT.2.2.2.2.1.2.2.1, sh2 hT h0 h1, ?_⟩
    have hIs := iv_snd (e := e) (ty := 4) (nb := σ 117 2) (vl := rsn (kk e σ) (σ 117 5) (σ 117 3) σ) (w := -1) hI (by omega) h0 h1 (by decide) (by decide) hr.1 hr.2 (by omega) (by omega) (fun z => absurd z (by decide))
    exact K_ans hC hI h0 h1 (by decide) (fun g hg => sg_X1_reach_20 ⟨by decide, by decide, sh2 hg.T h0 h1, K_brk hg hIs h0 h1 hn (fun g' hg' => sg_X1_reach_24 (hkD g' hg'))⟩)
end K5
