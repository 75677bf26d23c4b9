/-! the class: an answer comes -/
abbrev CM (σ ρ : Hp) : Prop := ρ 6 0 = σ 117 0 ∧ ρ 6 1 = σ 117 9 ∧ ρ 6 2 = σ 117 1 ∧ ρ 6 3 = σ 117 2 ∧ ρ 6 4 = σ 117 8 ∧ (σ 117 1 = 0 → ρ 6 5 = σ 117 3 ∧ ρ 6 6 = σ 117 4 ∧ ρ 6 7 = σ 117 5 ∧ ρ 6 8 = σ 117 6 ∧ ρ 6 9 = σ 117 7)
theorem CM_c {σ τ ρ : Hp} (h : τ 117 = σ 117) (k : CM σ ρ) : CM τ ρ := by
  rw [CM, h]
  exact k
theorem tells_w {e k n r v a x y : Int} {σ : Hp} (h1 : a ≠ 110) (h2 : a ≠ 112) : F_tells e k n r v (wr σ a x y) = wr (F_tells e k n r v σ) a x y := by
  have hT : T0 e (wr σ a x y) = T0 e σ := by
    unfold T0
    rw [wr_a (Ne.symm h2)]
  unfold F_tells
  rw [hT, wr_a (Ne.symm h2)]
  funext c j
  simp only [wr]
  (repeat' split) <;> first | rfl | omega
theorem shw_90 {e x y : Int} {σ : Hp} : F_sh e (wr σ 90 x y) = wr (F_sh e σ) 90 x y := by
  unfold F_sh
  funext c j
  simp only [wr, cpx]
  (repeat' split) <;> first | rfl | omega
theorem old_90 {e x y r v : Int} {σ : Hp} : F_old e r v (wr σ 90 x y) = wr (F_old e r v σ) 90 x y := by
  rw [← old_eq, ← old_eq, shw_90, wr_a (by decide), wr_a (by decide), tells_w (by decide) (by decide)]
theorem opn_all {e r : Int} {σ : Hp} : ∀ n : Nat, (∀ x : Int, 0 ≤ x → x < n → ¬ σ 97 (28 * e + 7 * x) = r) → opn e r σ n = 0
  | 0, _ => rfl
  | n + 1, h => by
    unfold opn
    rw [if_pos (opn_all n (fun x x0 x1 => h x x0 (by omega))), if_neg (h n (by omega) (by omega))]
theorem opn_no {e r : Int} {σ : Hp} {x : Int} (x0 : 0 ≤ x) (hx : σ 97 (28 * e + 7 * x) = r) : ∀ n : Nat, x < n → ¬ opn e r σ n = 0
  | 0, h => by omega
  | n + 1, h => by
    unfold opn
    by_cases hn : x = n
    · subst hn
      rw [if_pos hx]
      split <;> decide
    · rw [if_neg (opn_no x0 hx n (by omega))]
      decide
section K4
variable {G : GG} {b : Nat × Nat} {Q : Option VV → Hp → Prop} {ρ σ h : Hp} {n : Int}
set_option maxHeartbeats 4000000 in
theorem Lk_await {e r m m' : Int} (hC : CR ρ n σ h) (hI : IV σ m m') (h0 : 0 ≤ e) (h1 : e < 4) (hr : h 6 3 = r) (hk0 : opn e r σ (σ 96 e).toNat = 0 → Q (some (vI 0)) h) (hk1 : ¬ opn e r σ (σ 96 e).toNat = 0 → Q (some (vI 1)) h) : ∀ (k : Nat) (i : Int), 0 ≤ i → i + k = σ 96 e → (∀ x : Int, 0 ≤ x → x < i → ¬ σ 97 (28 * e + 7 * x) = r) → AW G mm_X1_isAwaited b 39 [(0, vR (49 + 10 * e)), (1, vR 6), (2, vI i)] [] h Q := by
  have hT := hC.T
  have hE := hC.e
  obtain ⟨w1, w2, w3, w4⟩ := hC.w e h0 h1
  intro k
  induction k with
  | zero =>
    intro i i0 hi hx
    refine sg_X1_isAwaited_39 ?_
    simp (disch := omega) only [hT, hE, true_and]
    exact ⟨fun _ => hk0 (opn_all _ (fun x x0 x1 => hx x x0 (by omega))), fun q => by omega⟩
  | succ k ih =>
    intro i i0 hi hx
    have wi := w2 i i0 (by omega)
    have ws : h (h (50 + 10 * e) i) (-1) = 9 := hT.2.2.2.2.2.2.2.2.2.2 _ (by omega) (by omega) (by omega)
    have a0 := w4 i 0 i0 (by omega) (by decide) (by decide)
    rw [Int.add_zero] at a0
    refine sg_X1_isAwaited_39 ?_
    simp (disch := omega) only [hT, hE, true_and, ws, a0, hr]
    refine ⟨fun q => by omega, fun _ => ⟨by omega, by omega, fun q => ⟨by unfold inI; omega, ih (i + 1) (by omega) (by omega) (fun x x0 x1 => ?_)⟩, fun q => hk1 (opn_no i0 q _ (by omega))⟩⟩
    by_cases hxi : x = i
    · rw [hxi]
      exact q
    · exact hx x x0 (by omega)
set_option maxHeartbeats 4000000 in
theorem K_await {e r ty m m' : Int} (hC : CR ρ n σ h) (hI : IV σ m m') (h0 : 0 ≤ e) (h1 : e < 4) (ht : h 6 2 = ty) (hr : h 6 3 = r) (hk0 : F_and e r ty σ = σ → Q (some (vI 0)) h) (hk1 : F_and e r ty σ = F_ans 5 e r ty σ → (ty = 2 ∨ ∃ i, 0 ≤ i ∧ i < σ 96 e ∧ σ 97 (28 * e + 7 * i) = r) → Q (some (vI 1)) h) : Runs G mm_X1_isAwaited [vR (49 + 10 * e), vR 6] h Q := by
  have hT := hC.T
  have hE := hC.e
  obtain ⟨w1, w2, w3, w4⟩ := hC.w e h0 h1
  have w0 := w2 0 (by omega) (by omega)
  have ws : h (h (50 + 10 * e) 0) (-1) = 9 := hT.2.2.2.2.2.2.2.2.2.2 _ (by omega) (by omega) (by omega)
  unfold F_and at hk0 hk1
  refine rn_X1_isAwaited ?_
  simp (disch := omega) only [hT, hE, true_and, ws, ht, hr]
  refine ⟨fun q => ?_, fun q => ⟨fun q2 => ?_, fun q2 => ⟨by omega, fun q3 => ?_, fun q3 => ?_⟩⟩⟩
  · rw [if_neg q] at hk0 hk1
    refine Lk_await hC hI h0 h1 hr (fun z => hk0 (by rw [if_pos z])) (fun z => hk1 (by rw [if_neg z]) ?_) (σ 96 e).toNat 0 (by decide) (by omega) (fun x x0 x1 => by omega)
    obtain ⟨i, i0, i1, i2⟩ := opn_ex _ z
    exact Or.inr ⟨i, i0, by omega, i2⟩
  · rw [if_pos q, if_pos (Or.inl (by omega))] at hk0
    exact hk0 rfl
  · have a0 := w4 0 0 (by decide) (by omega) (by decide) (by decide)
    rw [show 28 * e + 7 * 0 + 0 = 28 * e by omega] at a0
    rw [a0] at q3
    rw [if_pos q, if_pos (Or.inr q3)] at hk0
    exact hk0 rfl
  · have a0 := w4 0 0 (by decide) (by omega) (by decide) (by decide)
    rw [show 28 * e + 7 * 0 + 0 = 28 * e by omega] at a0
    rw [a0] at q3
    rw [if_pos q, if_neg (by omega)] at hk1
    exact hk1 rfl (Or.inl q)
set_option maxHeartbeats 4000000 in
theorem Lk_below {e r ty m m' : Int} (h0 : 0 ≤ e) (h1 : e < 4) (hn : n ≤ 990) : ∀ (k : Nat) (i : Int) (b : Nat × Nat) (σ h : Hp), CR ρ n σ h → IV σ m m' → 0 ≤ i → i + σ 96 e ≤ 4 → σ 96 e < k → σ 96 e ≤ b.1 → 6 * σ 96 e ≤ b.2 → (ty = 2 ∨ ∃ i, 0 ≤ i ∧ i < σ 96 e ∧ σ 97 (28 * e + 7 * i) = r) → (∀ g τ, CR ρ n τ g → IV τ m m' → F_ans k e r ty σ = F_agn e τ → 1 ≤ τ 96 e → τ 117 = σ 117 → Q (some (vI 0)) g) → (∀ g τ, CR ρ n τ g → IV τ m m' → F_ans k e r ty σ = F_an2 e ty τ → (ty = 2 ∨ 1 ≤ τ 96 e) → τ 117 = σ 117 → Q (some (vI 1)) g) → AW G mm_X1_finishBelow b 2 [(0, vR (49 + 10 * e)), (1, vI r), (2, vI i)] [] h Q := by
  intro k
  induction k with
  | zero =>
    intro i b σ h hC hI i0 hi hl
    have := (hI.e e h0 h1).2.2.1
    omega
  | succ k ih =>
    intro i b σ h hC hI i0 hi hl hb1 hb2 hx hk0 hk1
    have hT := hC.T
    have hE := hC.e
    obtain ⟨w1, w2, w3, w4⟩ := hC.w e h0 h1
    have w0 := w2 0 (by omega) (by omega)
    have ws : h (h (50 + 10 * e) 0) (-1) = 9 := hT.2.2.2.2.2.2.2.2.2.2 _ (by omega) (by omega) (by omega)
    have ho : ty = 2 ∨ 1 ≤ σ 96 e := hx.imp id (fun ⟨i, i0, i1, _⟩ => by omega)
    have hF : F_ans (k + 1) e r ty σ = (if 0 < σ 96 e ∧ σ 97 (28 * e) < r then (if σ 97 (28 * e + 1) ≤ 1 then F_ans k e r ty (F_old e 0 0 σ) else F_agn e σ) else F_an2 e ty σ) := rfl
    rw [hF] at hk0 hk1
    refine sg_X1_finishBelow_2 ?_
    by_cases hz : σ 96 e ≤ 0
    · rw [if_neg (by omega)] at hk1
      simp (disch := omega) only [hT, hE, true_and]
      exact ⟨fun _ => hk1 h σ hC hI rfl ho rfl, fun _ => ⟨fun _ => hk1 h σ hC hI rfl ho rfl, fun q => by omega⟩⟩
    · have a0 := w4 0 0 (by decide) (by omega) (by decide) (by decide)
      have a1 := w4 0 1 (by decide) (by omega) (by decide) (by decide)
      rw [show 28 * e + 7 * 0 + 0 = 28 * e by omega] at a0
      rw [show 28 * e + 7 * 0 + 1 = 28 * e + 1 by omega] at a1
      have hW := (hI.w e 0 h0 h1 (by decide) (by omega)).2.1
      rw [show 28 * e + 7 * 0 + 1 = 28 * e + 1 by omega] at hW
      simp (disch := omega) only [hT, hE, true_and, ws, a0, a1]
      refine ⟨fun q => by omega, fun _ => ⟨fun q => by omega, fun _ => ⟨by omega, fun q => ?_, fun q => ⟨fun z => ⟨by omega, by omega, ?_⟩, fun z => ?_⟩⟩⟩⟩
      · rw [if_neg (by omega)] at hk1
        exact hk1 h σ hC hI rfl ho rfl
      · rw [if_pos (by omega), if_pos (by omega)] at hk0 hk1
        refine K_old hC hI h0 h1 (by omega) (by omega) ?_
        intro g hg
        refine sg_X1_finishBelow_50 ⟨by unfold inI; omega, ?_⟩
        have r117 : F_old e 0 0 σ 117 = σ 117 := old_off (by decide) (by decide) (by decide) (by decide) (by decide) (by decide)
        refine ih (i + 1) _ _ g hg (iv_old hI h0 h1 (by omega)) (by omega) (by rw [old_96]; omega) (by rw [old_96]; omega) ?_ ?_ ?_ (fun g τ a1 a2 a3 a4 a5 => hk0 g τ a1 a2 a3 a4 (by rw [a5, r117])) (fun g τ a1 a2 a3 a4 a5 => hk1 g τ a1 a2 a3 a4 (by rw [a5, r117]))
        · rw [old_96]
          show σ 96 e - 1 ≤ ((b.1 - 1 : Nat) : Int)
          omega
        · rw [old_96]
          show 6 * (σ 96 e - 1) ≤ ((b.2 - 6 : Nat) : Int)
          omega
        · exact hx.imp id (fun ⟨i, i0, i1, i2⟩ => by
            have hi : i ≠ 0 := fun h => by
              subst h
              rw [Int.mul_zero, Int.add_zero] at i2
              omega
            refine ⟨i - 1, by omega, by rw [old_96]; omega, ?_⟩
            rw [old_97i (by omega) (by omega), show 28 * e + 7 * (i - 1) + 7 = 28 * e + 7 * i by omega]
            exact i2)
      · rw [if_pos (by omega), if_neg (by omega)] at hk0
        exact hk0 h σ hC hI rfl (by omega) rfl
theorem sh2 {h : Hp} {e : Int} (hT : CT h) (h0 : 0 ≤ e) (h1 : e < 4) : h (49 + 10 * e) (-1) = 2 := (hT.2.2.2.2.2.2.2.2.1 e h0 h1).2.1
set_option maxHeartbeats 4000000 in
theorem K_home {e v m m' : Int} (hC : CR ρ n σ h) (hI : IV σ m m') (h0 : 0 ≤ e) (h1 : e < 4) (ho : 1 ≤ σ 96 e) (hn : n ≤ 990) (hk : ∀ g, CR ρ n (if σ 97 (28 * e + 1) ≤ 1 then F_old e 0 v σ else wr (F_old e 0 v σ) 90 (12 * (e % 2) + σ 97 (28 * e + 6)) v) g → Q none g) (v0 : 0 ≤ v) (v1 : v ≤ 9999) : Runs G mm_X1_bringHome [vR (49 + 10 * e), vI v] h Q := by
  have hT := hC.T
  have hE := hC.e
  obtain ⟨w1, w2, w3, w4⟩ := hC.w e h0 h1
  have w0 := w2 0 (by omega) (by omega)
  have ws : h (h (50 + 10 * e) 0) (-1) = 9 := hT.2.2.2.2.2.2.2.2.2.2 _ (by omega) (by omega) (by omega)
  have a1 := w4 0 1 (by decide) (by omega) (by decide) (by decide)
  have a6 := w4 0 6 (by decide) (by omega) (by decide) (by decide)
  rw [show 28 * e + 7 * 0 + 1 = 28 * e + 1 by omega] at a1
  rw [show 28 * e + 7 * 0 + 6 = 28 * e + 6 by omega] at a6
  have hW := hI.w e 0 h0 h1 (by decide) (by omega)
  rw [show 28 * e + 7 * 0 = 28 * e by omega] at hW
  refine rn_X1_bringHome ?_
  simp (disch := omega) only [hT, hE, true_and, ws, a1, a6, forall_eq]
  refine ⟨by omega, fun z => ⟨by decide, by decide, ?_⟩, fun z => ⟨by omega, by omega, by decide, by decide, ?_⟩⟩
  · rw [if_pos (by omega)] at hk
    exact K_old hC hI h0 h1 ho (by omega) (fun g hg => sg_X1_bringHome_39 (hk g hg))
  · rw [if_neg (by omega), ← old_90] at hk
    exact K_old (cr_cell hC (by omega) (by omega) (by omega) (by omega)) (iv_cell hI (by omega) (by omega) v0 v1) h0 h1 (by rw [wr_a (by decide)]; exact ho) (by omega) (fun g hg => sg_X1_bringHome_39 (hk g hg))
set_option maxHeartbeats 4000000 in
theorem K_busy {e m m' : Int} (hC : CR ρ n σ h) (hI : IV σ m m') (h0 : 0 ≤ e) (h1 : e < 4) (ho : 1 ≤ σ 96 e) (hn : n ≤ 990) (hk : ∀ g, CR ρ n (if σ 102 e + 1 = 4 then F_brk e (F_old e 4 0 (wr σ 102 e (σ 102 e + 1))) else wr σ 102 e (σ 102 e + 1)) g → Q none g) : Runs G mm_X1_bearBusy [vR (49 + 10 * e)] h Q := by
  have hT := hC.T
  have hE := hC.e
  have hJ := hI.e e h0 h1
  have hC2 := cr_sc (v := σ 102 e + 1) (a := 102) (k := 12) hC h0 h1 (by omega)
  refine rn_X1_bearBusy ?_
  simp (disch := omega) only [hT, hE, true_and, forall_eq, inI]
  refine ⟨by omega, fun q => ?_, fun q => ⟨by decide, by decide, ?_⟩⟩
  · rw [if_neg (by omega)] at hk
    exact hk _ hC2
  · rw [if_pos (by omega), old_w (Or.inr rfl)] at hk
    have hIg := iv_old (r := 4) (v := 0) hI h0 h1 ho
    exact K_oldt (Or.inr rfl) hC2 hI h0 h1 ho (by omega) (fun g hg => sg_X1_bearBusy_24 ⟨by decide, by decide, sh2 hg.T h0 h1, K_brk hg hIg h0 h1 hn (fun g' hg' => sg_X1_bearBusy_28 (hk g' hg'))⟩)
theorem K_agn0 {e m m' : Int} (hC : CR ρ n σ h) (hI : IV σ m m') (hm : m' ≤ 99990) (h0 : 0 ≤ e) (h1 : e < 4) (hn : n ≤ 990) (hk : ∀ g, CR ρ n (if σ 96 e ≤ 0 then σ else F_agn e σ) g → Q none g) : Runs G mm_X1_tryAgain [vR (49 + 10 * e)] h Q := by
  by_cases hz : σ 96 e ≤ 0
  · rw [if_pos hz] at hk
    have hT := hC.T
    have hE := hC.e
    have hw := (hC.w e h0 h1).1
    refine rn_X1_tryAgain ?_
    simp (disch := omega) only [hT, hE, true_and]
    exact ⟨fun q => by omega, fun _ => hk h hC⟩
  · rw [if_neg hz] at hk
    exact K_agn hC hI hm h0 h1 (by omega) hn hk
set_option maxHeartbeats 4000000 in
theorem K_and {e m m' : Int} (hC : CR ρ n σ h) (hI : IV σ m m') (hm : m' ≤ 99990) (h0 : 0 ≤ e) (h1 : e < 4) (hn : n ≤ 990) (hM : CM σ ρ) (ht : 1 ≤ σ 117 1 ∧ σ 117 1 ≤ 4) (c8 : 0 ≤ σ 117 8 ∧ σ 117 8 ≤ 9999) (hk : ∀ g, CR ρ n (F_and e (σ 117 2) (σ 117 1) σ) g → Q none g) : Runs G mm_X1_meetAnswer [vR (49 + 10 * e), vR 6] h Q := by
  have hT := hC.T
  have o6 := hC.o.2
  obtain ⟨m0, m9, m1, m2, m8, -⟩ := hM
  have hw := (hC.w e h0 h1).1
  refine rn_X1_meetAnswer ⟨sh2 hT h0 h1, ?_⟩
  refine K_await (r := σ 117 2) (ty := σ 117 1) hC hI h0 h1 (by rw [o6]; exact m1) (by rw [o6]; exact m2) (fun hf => ?_) (fun hf hx => ?_)
  · rw [hf] at hk
    exact sg_X1_meetAnswer_5 ⟨fun q => absurd rfl q, fun _ => hk h hC⟩
  · rw [hf] at hk
    refine sg_X1_meetAnswer_5 ⟨fun _ => ⟨hT.2.2.2.2.1.2.2.1, by decide, by decide, sh2 hT h0 h1, ?_⟩, fun q => absurd q (by decide)⟩
    rw [o6, m2]
    refine rn_X1_finishBelow ?_
    refine Lk_below (ty := σ 117 1) h0 h1 hn 5 0 _ σ h hC hI (by decide) (by omega) (by omega) (by show σ 96 e ≤ 4; omega) (by show 6 * σ 96 e ≤ 24; omega) hx (fun g τ hg hIg hF hog h7 => ?_) (fun g τ hg hIg hF hog h7 => ?_)
    · rw [hF] at hk
      exact sg_X1_meetAnswer_17 ⟨fun q => absurd rfl q, fun _ => ⟨by decide, by decide, sh2 hg.T h0 h1, K_agn hg hIg hm h0 h1 hog hn (fun g' hg' => sg_X1_meetAnswer_24 (hk g' hg'))⟩⟩
    · rw [hF] at hk
      unfold F_an2 at hk
      rw [h7] at hk
      have o6g := hg.o.2
      refine sg_X1_meetAnswer_17 ⟨fun _ => ⟨hg.T.2.2.2.2.1.2.2.1, ?_⟩, fun q => absurd q (by decide)⟩
      rw [o6g, m1, m8]
      refine ⟨fun q => ⟨by decide, by decide, sh2 hg.T h0 h1, ?_⟩, fun q => ⟨by decide, by decide, sh2 hg.T h0 h1, ?_⟩, fun q => ⟨by decide, by decide, sh2 hg.T h0 h1, ?_⟩, fun q => ⟨by decide, by decide, sh2 hg.T h0 h1, ?_⟩, fun q => by omega⟩
      · rw [if_neg (by omega), if_pos q] at hk
        exact K_home hg hIg h0 h1 (by omega) hn (fun g' hg' => sg_X1_meetAnswer_68 (hk g' hg')) c8.1 c8.2
      · rw [if_pos q] at hk
        exact K_agn0 hg hIg hm h0 h1 hn (fun g' hg' => sg_X1_meetAnswer_75 (hk g' hg'))
      · rw [if_neg (by omega), if_neg (by omega), if_pos q] at hk
        exact K_busy hg hIg h0 h1 (by omega) hn (fun g' hg' => sg_X1_meetAnswer_82 (hk g' hg'))
      · rw [if_neg (by omega), if_neg (by omega), if_neg (by omega)] at hk
        have hIo := iv_old (r := 1) (v := σ 117 8) hIg h0 h1 (by omega)
        exact K_old hg hIg h0 h1 (by omega) (by omega) (fun g2 hg2 => sg_X1_meetAnswer_94 ⟨by decide, by decide, sh2 hg2.T h0 h1, K_brk hg2 hIo h0 h1 hn (fun g' hg' => sg_X1_meetAnswer_98 (hk g' hg'))⟩)
end K4
