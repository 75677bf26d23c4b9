/-! the class: an end breaks -/
section K2
variable {G : GG} {Q : Option VV → Hp → Prop} {ρ : Hp} {n : Int}
set_option maxHeartbeats 4000000 in
theorem Lk_rcv {e : Int} (h0 : 0 ≤ e) (h1 : e < 4) (hn : n ≤ 990) : ∀ (k : Nat) (i : Int) (b : Nat × Nat) (σ h : Hp), CR ρ (n + i) σ h → (∀ x, 0 ≤ x → x < 2 → 0 ≤ σ 111 x ∧ σ 111 x ≤ σ 112 x ∧ σ 112 x < 600) → σ 112 (e % 2) + k ≤ 512 → (∀ x, 0 ≤ x → x < 4 → 0 ≤ σ 96 x ∧ 0 ≤ σ 99 x) → 0 ≤ i → i + k = σ 99 e → σ 99 e ≤ 3 → k ≤ b.1 → 6 * k ≤ b.2 → (∀ g, CR ρ n (wr (F_rcv k e i σ) 99 e 0) g → Q none g) → AW G mm_X1_breakUp b 33 [(0, vR (49 + 10 * e)), (1, vI i)] [] h Q := by
  intro k
  induction k with
  | zero =>
    intro i b σ h hC hz hw hp i0 hi h3 hb1 hb2 hk
    have hT := hC.T
    have hE := hC.e
    refine sg_X1_breakUp_33 ?_
    simp (disch := omega) only [hT, hE, true_and, forall_eq]
    refine ⟨fun _ => hk _ ?_, fun q => by omega⟩
    rw [show i = σ 99 e by omega] at hC
    exact cr_rc0 hC h0 h1
  | succ k ih =>
    intro i b σ h hC hz hw hp i0 hi h3 hb1 hb2 hk
    have hT := hC.T
    have hE := hC.e
    have hb := hC.b
    have p0 := hp 0 (by decide) (by decide)
    have p1 := hp 1 (by decide) (by decide)
    have p2 := hp 2 (by decide) (by decide)
    have p3 := hp 3 (by decide) (by decide)
    have hr := hC.r e i h0 h1 i0 (by omega)
    refine sg_X1_breakUp_33 ?_
    simp (disch := omega) only [hT, hE, true_and, forall_eq, inI, nw_row, hr]
    refine ⟨fun q => by omega, fun _ => ⟨by omega, by omega, by omega, by omega, by omega, ?_⟩⟩
    refine K_ninit rfl ?_
    refine sg_X1_breakUp_65 ⟨?_, ?_⟩
    · rw [ntc_row (by omega) (by omega)]
      exact (hT.2.2.2.2.2.2.1 (e % 2) (by omega) (by omega)).2.1
    · refine K_push hC h0 h1 hz (by omega) rfl rfl ?_
      intro g hg
      refine sg_X1_breakUp_68 ⟨by unfold inI; omega, ?_⟩
      rw [show n + i + 1 = n + (i + 1) by omega] at hg
      refine ih (i + 1) _ _ g hg ?_ ?_ ?_ (by omega) ?_ ?_ ?_ ?_ hk
      · intro x x0 x1
        have := hz x x0 x1
        rw [tells_off (by decide) (by decide)]
        by_cases hx : x = e % 2
        · rw [hx, tells_112]
          rw [hx] at this
          omega
        · rw [tells_112o hx]
          exact this
      · rw [tells_112]
        omega
      · intro x x0 x1
        rw [tells_off (by decide) (by decide), tells_off (by decide) (by decide)]
        exact hp x x0 x1
      · rw [tells_off (by decide) (by decide)]
        omega
      · rw [tells_off (by decide) (by decide)]
        omega
      · show k ≤ b.1 - 1
        omega
      · show 6 * k ≤ b.2 - 6
        omega
set_option maxHeartbeats 4000000 in
theorem Lk_fin {e m m' : Int} (h0 : 0 ≤ e) (h1 : e < 4) (hn : n ≤ 990) : ∀ (k : Nat) (i : Int) (b : Nat × Nat) (σ h : Hp), CR ρ n σ h → IV σ m m' → σ 96 e = k → 0 ≤ i → i + k ≤ 4 → k + 3 ≤ b.1 → 6 * (k + 3) ≤ b.2 → (∀ (b' : Nat × Nat) g, CR ρ n (F_fin k e σ) g → 3 ≤ b'.1 → 18 ≤ b'.2 → AW G mm_X1_breakUp b' 33 [(0, vR (49 + 10 * e)), (1, vI 0)] [] g Q) → AW G mm_X1_breakUp b 7 [(0, vR (49 + 10 * e)), (1, vI i)] [] h Q := by
  intro k
  induction k with
  | zero =>
    intro i b σ h hC hI hk0 i0 hi hb1 hb2 hk
    have hT := hC.T
    have hE := hC.e
    refine sg_X1_breakUp_7 ?_
    simp (disch := omega) only [hT, hE, true_and]
    exact ⟨fun _ => hk b h hC (by omega) (by omega), fun _ => ⟨fun _ => hk b h hC (by omega) (by omega), fun q => by omega⟩⟩
  | succ k ih =>
    intro i b σ h hC hI hk0 i0 hi hb1 hb2 hk
    have hT := hC.T
    have hE := hC.e
    refine sg_X1_breakUp_7 ?_
    simp (disch := omega) only [hT, hE, true_and]
    refine ⟨fun q => by omega, fun _ => ⟨fun q => by omega, fun _ => ⟨by omega, by omega, ?_⟩⟩⟩
    refine K_old hC hI h0 h1 (by omega) (by omega) ?_
    intro g hg
    refine sg_X1_breakUp_25 ⟨by unfold inI; omega, ?_⟩
    refine ih (i + 1) _ _ g hg (iv_old hI h0 h1 (by omega)) ?_ (by omega) (by omega) ?_ ?_ hk
    · rw [old_96]
      omega
    · show k + 3 ≤ b.1 - 1
      omega
    · show 6 * (k + 3) ≤ b.2 - 6
      omega
set_option maxHeartbeats 4000000 in
theorem K_brk {e m m' : Int} {σ h : Hp} (hC : CR ρ n σ h) (hI : IV σ m m') (h0 : 0 ≤ e) (h1 : e < 4) (hn : n ≤ 990) (hk : ∀ g, CR ρ n (F_brk e σ) g → Q none g) : Runs G mm_X1_breakUp [vR (49 + 10 * e)] h Q := by
  have hT := hC.T
  have hJ := hI.e e h0 h1
  have hI2 : IV (wr σ 94 e 2) m m' := iv_e hI h0 h1 (Or.inl ⟨rfl, by decide, by decide⟩)
  have hC2 := cr_sc (v := 2) (a := 94) (k := 6) hC h0 h1 (by omega)
  have hI3 := iv_fin h0 h1 (σ 96 e).toNat (wr σ 94 e 2) hI2 (by rw [wr_a (by decide)]; omega)
  have r9 : F_fin (σ 96 e).toNat e (wr σ 94 e 2) 99 = σ 99 := by rw [fin_off (by decide) (by decide) (by decide) (by decide) (by decide) (by decide), wr_off (by decide)]
  refine rn_X1_breakUp ?_
  simp (disch := omega) only [hT, true_and, forall_eq]
  refine Lk_fin h0 h1 hn (σ 96 e).toNat 0 _ _ _ hC2 hI2 (by rw [wr_a (by decide)]; omega) (by decide) (by omega) (by show _ ≤ 7; omega) (by show _ ≤ 42; omega) ?_
  intro b' g hg hb1 hb2
  have hz := hz_of hI3
  have hJ3 := hI3.j h0 h1
  have h96 := fin_96 (e := e) (σ 96 e).toNat (wr σ 94 e 2)
  rw [wr_a (by decide)] at h96
  have hn3 := hI3.n
  rw [r9] at hJ3
  refine Lk_rcv h0 h1 hn (σ 99 e).toNat 0 b' _ g (by rw [Int.add_zero]; exact hg) hz (by omega) (fun x x0 x1 => ?_) (by decide) (by rw [r9]; omega) (by rw [r9]; omega) (by omega) (by omega) hk
  have := hI3.e x x0 x1
  omega
end K2
