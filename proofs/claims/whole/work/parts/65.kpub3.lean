/-! the class: keys, counts, ticks, what is taken, letters -/
section KB
variable {G : GG} {b : Nat × Nat} {Q : Option VV → Hp → Prop} {ρ σ h : Hp} {n : Int}
set_option maxHeartbeats 4000000 in
theorem Lk_keyc {j : Int} (hC : CR ρ n σ h) (hp : ∀ i, 0 ≤ i → i < 8 → 0 ≤ σ 92 i) (h0 : 0 ≤ j) (h1 : j < 2) (hk : Q (some (vI (kc σ j 4))) h) : ∀ (m i : Nat), i + m = 4 → AW G mm_X2_keyCount b 4 [(0, vR (35 + 7 * j)), (1, vI (kc σ j i)), (2, vI (i : Int))] [] h Q := by
  have hT := hC.T
  intro m
  induction m with
  | zero =>
    intro i hi
    have hi4 : i = 4 := by omega
    subst hi4
    exact sg_X2_keyCount_4 ⟨fun _ => hk, fun q => absurd (show (4 : Int) ≤ 4 by decide) q⟩
  | succ m ih =>
    intro i hi
    have kb := kc_in σ j i
    have e1 : kc σ j (i + 1) = kc σ j i + b2i (0 < σ 92 (4 * j + i)) := rfl
    have ihk := ih (i + 1) (by omega)
    rw [e1, show ((i + 1 : Nat) : Int) = (i : Int) + 1 from rfl] at ihk
    have kR := hC.k j i h0 h1 (by omega) (by omega)
    have p0 := hp (4 * j + i) (by omega) (by omega)
    refine sg_X2_keyCount_4 ?_
    simp (disch := omega) only [hT, true_and, inI]
    refine ⟨fun q => by omega, fun _ => ⟨by omega, by omega, fun q => ⟨by omega, ?_⟩, fun q => ⟨by omega, by omega, ?_⟩⟩⟩
    · have hz : σ 92 (4 * j + i) = 0 := Decidable.byContradiction (fun z => by have := (kR.2 z).1; omega)
      rw [b2i_f (by omega), Int.add_zero] at ihk
      exact ihk
    · have hz : ¬ σ 92 (4 * j + i) = 0 := fun z => q (kR.1 z)
      rw [b2i_t (by omega)] at ihk
      exact ihk
theorem K_keyc {j : Int} (hC : CR ρ n σ h) (hp : ∀ i, 0 ≤ i → i < 8 → 0 ≤ σ 92 i) (h0 : 0 ≤ j) (h1 : j < 2) (hk : Q (some (vI (kc σ j 4))) h) : Runs G mm_X2_keyCount [vR (35 + 7 * j)] h Q := rn_X2_keyCount (Lk_keyc hC hp h0 h1 hk 4 0 rfl)
theorem K_setKey {j k c l r : Int} (hC : CR ρ n σ h) (h0 : 0 ≤ j) (h1 : j < 2) (k0 : 0 ≤ k) (k1 : k < 4) (l0 : ¬ l = 0) (hk : ∀ g, CR ρ n (F_keys (4 * j + k) c l r σ) g → Q none g) : Runs G mm_X2_setKey [vR (35 + 7 * j), vI k, vI c, vI l, vI r] h Q := by
  have hT := hC.T
  refine rn_X2_setKey ?_
  simp (disch := omega) only [hT, true_and, forall_eq]
  exact ⟨by omega, by omega, hk _ (cr_key hC h0 h1 k0 k1 l0)⟩
set_option maxHeartbeats 4000000 in
theorem K_key {j k c l r m m' : Int} (hC : CR ρ n σ h) (hI : IV σ m m') (hk : PQ ρ n Q (M_key j k c l r σ)) : Runs G mm_X9_key [vR 1, vI j, vI k, vI c, vI l, vI r] h Q := by
  have hT := hC.T
  refine rn_X9_key ⟨fun q => ?_, fun q => ⟨fun q2 => ⟨fun q3 => ?_, fun q3 => ⟨by unfold inI; omega, fun q4 => ?_, fun q4 => ⟨fun q5 => ?_, fun q5 => ?_⟩⟩⟩, fun q2 => ?_⟩⟩
  · simp (disch := omega) only [M_key, if_pos, if_neg] at hk
    exact PQ.k hk hC
  · simp (disch := omega) only [M_key, if_pos, if_neg] at hk
    exact PQ.k hk hC
  · simp (disch := omega) only [M_key, if_pos, if_neg] at hk
    exact PQ.k hk hC
  · simp (disch := omega) only [M_key, if_pos, if_neg] at hk
    simp (disch := omega) only [hT, true_and]
    refine ⟨by omega, by omega, ?_⟩
    refine K_setKey hC (by omega) (by omega) (by omega) (by omega) (by omega) (fun g hg => ?_)
    have hT2 := hg.T
    refine sg_X9_key_68 ?_
    simp (disch := omega) only [hT2, true_and]
    refine ⟨by omega, by omega, K_keyc hg (fun i i0 i1 => ?_) (by omega) (by omega) (sg_X9_key_77 (PQ.k hk hg))⟩
    unfold F_keys
    rw [wr_a (by decide), wr_v]
    have := (hI.k i i0 i1).1
    split
    · omega
    · rw [wr_a (by decide)]
      exact this
  · simp (disch := omega) only [M_key, if_pos, if_neg] at hk
    exact PQ.k hk hC
  · simp (disch := omega) only [M_key, if_pos, if_neg] at hk
    exact PQ.k hk hC
set_option maxHeartbeats 4000000 in
theorem K_lock {j k m m' : Int} (hC : CR ρ n σ h) (hI : IV σ m m') (hk : PQ ρ n Q (M_lock j k σ)) : Runs G mm_X9_lock [vR 1, vI j, vI k] h Q := by
  have hT := hC.T
  refine rn_X9_lock ⟨fun q => ?_, fun q => ⟨fun q2 => ?_, fun q2 => ?_⟩⟩
  · simp (disch := omega) only [M_lock, if_pos, if_neg] at hk
    exact PQ.k hk hC
  · have kR := hC.k j k (by omega) (by omega) (by omega) (by omega)
    simp (disch := omega) only [hT, true_and, forall_eq]
    refine ⟨by omega, by omega, by omega, by omega, fun q3 => ?_, fun q3 => ?_⟩
    · have hz : ¬ σ 92 (4 * j + k) = 0 := fun z => q3 (kR.1 z)
      simp (disch := omega) only [M_lock, if_pos, if_neg] at hk
      have hg := cr_lock hC (show 0 ≤ j by omega) (by omega) (show 0 ≤ k by omega) (by omega)
      refine K_keyc hg (fun i i0 i1 => ?_) (by omega) (by omega) (sg_X9_lock_63 (PQ.k hk hg))
      rw [wr_v]
      have := (hI.k i i0 i1).1
      split
      · omega
      · exact this
    · have hz : σ 92 (4 * j + k) = 0 := Decidable.byContradiction (fun z => by have := (kR.2 z).1; omega)
      simp (disch := omega) only [M_lock, if_pos, if_neg] at hk
      exact PQ.k hk hC
  · simp (disch := omega) only [M_lock, if_pos, if_neg] at hk
    exact PQ.k hk hC
set_option maxHeartbeats 4000000 in
theorem K_door {j k w m m' : Int} (hC : CR ρ n σ h) (hI : IV σ m m') (hk : PQ ρ n Q (M_door j k w σ)) : Runs G mm_X9_door [vR 1, vI j, vI k, vI w] h Q := by
  have hT := hC.T
  refine rn_X9_door ⟨fun q => ?_, fun q => ⟨fun q2 => ⟨fun q3 => ?_, fun q3 => ?_⟩, fun q2 => ?_⟩⟩
  · simp (disch := omega) only [M_door, if_pos, if_neg] at hk
    exact PQ.k hk hC
  · have kR := hC.k j k (by omega) (by omega) (by omega) (by omega)
    simp (disch := omega) only [hT, true_and]
    refine ⟨by omega, by omega, by omega, by omega, fun q4 => ?_, fun q4 => ?_⟩
    · have hz : ¬ σ 92 (4 * j + k) = 0 := fun z => q4 (kR.1 z)
      obtain ⟨k0, k1, k2, k3⟩ := kR.2 hz
      rw [k1, k2, k3]
      refine ⟨fun z => ?_, fun z => ?_, fun z => ?_⟩
      all_goals
        simp (disch := omega) only [M_door, if_pos, if_neg] at hk
        exact PQ.k hk hC
    · have hz : σ 92 (4 * j + k) = 0 := Decidable.byContradiction (fun z => by have := (kR.2 z).1; omega)
      simp (disch := omega) only [M_door, if_pos, if_neg] at hk
      exact PQ.k hk hC
  · simp (disch := omega) only [M_door, if_pos, if_neg] at hk
    exact PQ.k hk hC
  · simp (disch := omega) only [M_door, if_pos, if_neg] at hk
    exact PQ.k hk hC
set_option maxHeartbeats 4000000 in
theorem Lk_ready (hC : CR ρ n σ h) (hk : Q (some (vI (rc σ 4))) h) : ∀ (m i : Nat), i + m = 4 → AW G mm_X9_readyEnds b 4 [(0, vR 1), (1, vI (rc σ i)), (2, vI (i : Int))] [] h Q := by
  have hT := hC.T
  have hE := hC.e
  intro m
  induction m with
  | zero =>
    intro i hi
    have hi4 : i = 4 := by omega
    subst hi4
    exact sg_X9_readyEnds_4 ⟨fun _ => hk, fun q => absurd (show (4 : Int) ≤ 4 by decide) q⟩
  | succ m ih =>
    intro i hi
    have kb := rc_in σ i
    have e1 : rc σ (i + 1) = rc σ i + b2i (σ 94 i = 1) := rfl
    have ihk := ih (i + 1) (by omega)
    rw [e1, show ((i + 1 : Nat) : Int) = (i : Int) + 1 from rfl] at ihk
    refine sg_X9_readyEnds_4 ?_
    simp (disch := omega) only [hT, hE, true_and, inI]
    refine ⟨fun q => by omega, fun _ => ⟨by omega, by omega, fun q => ⟨by omega, ?_⟩, fun q => ⟨by omega, by omega, ?_⟩⟩⟩
    · rw [b2i_f q, Int.add_zero] at ihk
      exact ihk
    · rw [b2i_t q] at ihk
      exact ihk
theorem K_ready (hC : CR ρ n σ h) (hk : Q (some (vI (rc σ 4))) h) : Runs G mm_X9_readyEnds [vR 1] h Q := rn_X9_readyEnds (Lk_ready hC hk 4 0 rfl)
/-- the sum of the cells of a host, up to the i-th -/
def cs (σ : Hp) (j : Int) : Nat → Int
  | 0 => 0
  | i + 1 => cs σ j i + σ 90 (12 * j + i)
theorem cs_in {σ : Hp} {j : Int} (h : Ic σ) (h0 : 0 ≤ j) (h1 : j < 2) : ∀ i : Nat, i ≤ 12 → 0 ≤ cs σ j i ∧ cs σ j i ≤ 9999 * i
  | 0, _ => ⟨Int.le_refl _, Int.le_refl _⟩
  | i + 1, hi => by
    have ih := cs_in h h0 h1 i (by omega)
    have := h (12 * j + i) (by omega) (by omega)
    unfold cs
    omega
theorem cs_0 {σ : Hp} : ∀ i : Nat, cs σ 0 i = cc σ i
  | 0 => rfl
  | i + 1 => by
    unfold cs cc
    rw [cs_0 i, show 12 * 0 + (i : Int) = i by omega]
theorem cs_1 {σ : Hp} : ∀ i : Nat, cc σ 12 + cs σ 1 i = cc σ (12 + i)
  | 0 => by
    show cc σ 12 + 0 = cc σ 12
    omega
  | i + 1 => by
    have e1 : cc σ (12 + (i + 1)) = cc σ (12 + i) + σ 90 ((12 + i : Nat) : Int) := rfl
    have e2 : cs σ 1 (i + 1) = cs σ 1 i + σ 90 (12 * 1 + i) := rfl
    rw [e1, e2, ← cs_1 i, show ((12 + i : Nat) : Int) = 12 * 1 + i by omega]
    omega
set_option maxHeartbeats 4000000 in
theorem Lk_sum {j : Int} (hC : CR ρ n σ h) (hI : Ic σ) (h0 : 0 ≤ j) (h1 : j < 2) (hk : Q (some (vI (cs σ j 12))) h) : ∀ (m i : Nat), i + m = 12 → AW G mm_X2_cellSum b 4 [(0, vR (35 + 7 * j)), (1, vI (cs σ j i)), (2, vI (i : Int))] [] h Q := by
  have hT := hC.T
  intro m
  induction m with
  | zero =>
    intro i hi
    have hi4 : i = 12 := by omega
    subst hi4
    exact sg_X2_cellSum_4 ⟨fun _ => hk, fun q => absurd (show (12 : Int) ≤ 12 by decide) q⟩
  | succ m ih =>
    intro i hi
    have kb := cs_in hI h0 h1 i (by omega)
    have kb2 := hI (12 * j + i) (by omega) (by omega)
    have hc := hC.c j i h0 h1 (by omega) (by omega)
    refine sg_X2_cellSum_4 ?_
    simp (disch := omega) only [hT, true_and, inI, hc]
    exact ⟨fun q => by omega, fun _ => ⟨by omega, by omega, by omega, by omega, ih (i + 1) (by omega)⟩⟩
theorem K_sum {j : Int} (hC : CR ρ n σ h) (hI : Ic σ) (h0 : 0 ≤ j) (h1 : j < 2) (hk : Q (some (vI (cs σ j 12))) h) : Runs G mm_X2_cellSum [vR (35 + 7 * j)] h Q := rn_X2_cellSum (Lk_sum hC hI h0 h1 hk 12 0 rfl)
set_option maxHeartbeats 4000000 in
theorem K_count {w m m' : Int} (hC : CR ρ n σ h) (hI : IV σ m m') (hk : PQ ρ n Q (M_count w σ)) : Runs G mm_X9_count [vR 1, vI w] h Q := by
  have hT := hC.T
  obtain ⟨⟨b1, b1', b1''⟩, -⟩ := hC.p
  have hx := hC.x.1
  have n0 := (hC.n 0 (by decide) (by decide)).1
  have n1 := (hC.n 1 (by decide) (by decide)).1
  have d := hC.d
  have hN := hI.n
  have dq := hI.q.2.2.2.1
  have t0 := hT.2.2.2.2.2.2.1 0 (by decide) (by decide)
  have t1 := hT.2.2.2.2.2.2.1 1 (by decide) (by decide)
  have a0 : h 2 0 = 35 := t0.1
  have a1 : h 2 1 = 42 := t1.1
  have s0 : h 35 (-1) = 3 := t0.2.1
  have s1 : h 42 (-1) = 3 := t1.2.1
  have n0' : h 35 4 = σ 112 0 - σ 111 0 := n0
  have n1' : h 42 4 = σ 112 1 - σ 111 1 := n1
  refine rn_X9_count ?_
  simp (disch := omega) only [hT.1, hT.2.1, hT.2.2.2.1, hT.2.2.2.2.2.1, true_and, b1, b1', b1'', hx, a0, a1, s0, s1, n0', n1', inI]
  refine ⟨fun q => ?_, fun q => ?_, fun q => ⟨by decide, ?_⟩, fun q => ⟨by decide, ?_⟩, fun q => ?_, fun q => ⟨by decide, ?_⟩, fun q => ⟨by decide, by decide, by omega, ?_⟩, fun q => ?_, fun q => ?_, fun q => ?_⟩
  · simp (disch := omega) only [M_count, if_pos, if_neg] at hk
    exact PQ.k hk hC
  · simp (disch := omega) only [M_count, if_pos, if_neg] at hk
    exact PQ.k hk hC
  · subst q
    exact PQ.k hk hC
  · subst q
    exact PQ.k hk hC
  · simp (disch := omega) only [M_count, if_pos, if_neg] at hk
    exact K_ready hC (sg_X9_count_92 (PQ.k hk hC))
  · simp (disch := omega) only [M_count, if_pos, if_neg] at hk
    have c0 := cs_in hI.c (show (0 : Int) ≤ 0 by decide) (by decide) 12 (by decide)
    have c1 := cs_in hI.c (show (0 : Int) ≤ 1 by decide) (by decide) 12 (by decide)
    have e1 := cs_1 (σ := σ) 12
    rw [← cs_0] at e1
    refine K_sum (j := 0) hC hI.c (by decide) (by decide) ?_
    refine sg_X9_count_102 ?_
    simp (disch := omega) only [hT.1, hT.2.1, true_and, a1, s1]
    refine ⟨by decide, K_sum (j := 1) hC hI.c (by decide) (by decide) ?_⟩
    refine sg_X9_count_111 ⟨by unfold inI; omega, ?_⟩
    have := PQ.k hk hC
    rw [e1]
    exact this
  · simp (disch := omega) only [M_count, if_pos, if_neg] at hk
    rw [d.2.2]
    exact PQ.k hk hC
  · simp (disch := omega) only [M_count, if_pos, if_neg] at hk
    exact PQ.k hk hC
  · simp (disch := omega) only [M_count, if_pos, if_neg] at hk
    exact PQ.k hk hC
  · simp (disch := omega) only [M_count, if_pos, if_neg] at hk
    exact PQ.k hk hC
theorem agn_101 {e : Int} {σ : Hp} (h1 : 1 ≤ σ 96 e) (hr : 0 ≤ σ 96 e - 1) : F_agn e σ 94 e = 1 ∨ F_agn e σ 101 e = 0 ∨ σ 94 e ≠ 1 := by
  by_cases h94 : σ 94 e = 1
  · unfold F_agn
    by_cases hq : σ 101 e + 1 = 4
    · rw [if_pos hq]
      refine Or.inr (Or.inl ?_)
      rw [old_w (Or.inl rfl)]
      unfold F_brk
      rw [wr_a (by decide), rcv_off (by decide) (by decide)]
      have : ∀ (k : Nat) (τ : Hp), τ 101 e = 0 → F_fin k e τ 101 e = 0 := by
        intro k
        induction k with
        | zero => exact fun τ z => z
        | succ k ih => exact fun τ z => ih _ old_101
      exact this _ _ (by rw [wr_a (by decide)]; exact old_101)
    · rw [if_neg hq]
      refine Or.inl ?_
      have : ∀ (k : Nat) (i : Int) (τ : Hp), F_sws k e i τ 94 = τ 94 := by
        intro k
        induction k with
        | zero => exact fun i τ => rfl
        | succ k ih =>
          intro i τ
          show F_sws k e (i + 1) (F_sw e i τ) 94 = τ 94
          rw [ih]
          unfold F_sw
          rw [snd_off (by decide) (by decide)]
      rw [this, wr_a (by decide)]
      exact h94
  · exact Or.inr (Or.inr h94)
set_option maxHeartbeats 4000000 in
theorem K_tick {e m m' : Int} (hC : CR ρ n σ h) (hI : IV σ m m') (hm : m' ≤ 99990) (hn : n ≤ 990) (hk : PQ ρ n Q (M_tick e σ)) : Runs G mm_X9_tick [vR 1, vI e] h Q := by
  have hT := hC.T
  have hE := hC.e
  refine rn_X9_tick ⟨fun q => ?_, fun q => ?_⟩
  · have hw := (hC.w e (by omega) (by omega)).1
    simp (disch := omega) only [hT, hE, true_and]
    refine ⟨by omega, by omega, fun q2 => ?_, fun q2 => ⟨fun q3 => ⟨by decide, by decide, ?_⟩, fun q3 => ?_⟩⟩
    · simp (disch := omega) only [M_tick, if_pos, if_neg] at hk
      exact PQ.k hk hC
    · have ha := agn_101 (e := e) (σ := σ) (by omega) (by omega)
      have hk2 : PQ ρ n Q (if F_agn e σ 94 e = 1 then F_agn e σ 101 e else 0, F_agn e σ) := by
        unfold M_tick at hk
        rw [if_neg (show ¬ ¬ (0 ≤ e ∧ e ≤ 3) by omega), if_neg (show ¬ ¬ σ 94 e = 1 by omega), if_neg q3] at hk
        exact hk
      refine K_agn hC hI hm (by omega) (by omega) (by omega) hn (fun g hg => ?_)
      have hT2 := hg.T
      have hE2 := hg.e
      refine sg_X9_tick_49 ?_
      simp (disch := omega) only [hT2, hE2, true_and]
      refine ⟨by omega, by omega, ?_⟩
      have := PQ.k hk2 hg
      dsimp only at this
      by_cases z : F_agn e σ 94 e = 1
      · rw [if_pos z] at this
        exact this
      · rw [if_neg z] at this
        rw [show F_agn e σ 101 e = 0 by omega]
        exact this
    · simp (disch := omega) only [M_tick, if_pos, if_neg] at hk
      exact PQ.k hk hC
  · simp (disch := omega) only [M_tick, if_pos, if_neg] at hk
    exact PQ.k hk hC
set_option maxHeartbeats 4000000 in
theorem K_write {v m m' : Int} (hC : CR ρ n σ h) (hI : IV σ m m') (hk : PQ ρ n Q (M_write v σ)) : Runs G mm_X9_write [vR 1, vI v] h Q := by
  have hT := hC.T
  have hx := hC.x.1
  have hX := hI.x
  obtain ⟨x0, x1, x2⟩ := hI.x
  refine rn_X9_write ⟨fun q => ?_, fun q => ?_⟩
  · simp (disch := omega) only [hT.1, hT.2.2.2.2.2.1, true_and, hx]
    refine ⟨fun q2 => ⟨by omega, by omega, ?_⟩, fun q2 => ?_⟩
    · simp (disch := omega) only [M_write, if_pos, if_neg] at hk
      have hg := cr_letter (v := v) hC hX.1
      refine rn_X6_append ?_
      simp (disch := omega) only [hT.2.2.2.2.2.1, true_and, hx, forall_eq, inI]
      refine ⟨fun z => by omega, fun _ => ⟨hX.1, q2, by omega, by omega, ?_⟩⟩
      refine sg_X9_write_41 ⟨hg.T.1.1, ?_⟩
      rw [hg.T.1.2.2.2.2]
      refine ⟨hg.T.2.2.2.2.2.1.1, ?_⟩
      rw [hg.x.1, wr_e]
      exact PQ.k hk hg
    · simp (disch := omega) only [M_write, if_pos, if_neg] at hk
      exact PQ.k hk hC
  · simp (disch := omega) only [M_write, if_pos, if_neg] at hk
    exact PQ.k hk hC
theorem K_step2 {way m m' : Int} (hC : CR ρ n σ h) (hI : IV σ m m') (hmn : m ≤ 511) (hm : m' ≤ 99900) (hn : n ≤ 990) (hk : PQ ρ n Q (A_step way σ, F_step way σ)) : Runs G mm_X9_step [vR 1, vI way] h Q :=
  K_step hC hI hmn hm hn (fun ρ' g hρ hg => hk ρ' g (fun a a0 a1 => hρ a (by omega)) (hg.up (by omega)))
end KB
