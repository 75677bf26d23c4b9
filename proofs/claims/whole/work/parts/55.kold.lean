/-! the class: told, the oldest work ended -/
theorem tells_c {e k n r v : Int} {σ τ : Hp} (h1 : τ 110 = σ 110) (h2 : τ 112 = σ 112) : F_tells e k n r v τ 110 = F_tells e k n r v σ 110 ∧ F_tells e k n r v τ 112 = F_tells e k n r v σ 112 := by
  unfold F_tells T0
  rw [h2]
  constructor <;> funext j <;> simp only [wr, h1, h2]
def F_sh (e : Int) (σ : Hp) : Hp := wr (wr (cpx (wr σ 96 e (σ 96 e - 1)) 97 (28 * e) 97 (28 * e + 7) (7 * (σ 96 e - 1))) 101 e 0) 102 e 0
theorem sh_off {e a : Int} {σ : Hp} (h3 : a ≠ 96) (h4 : a ≠ 97) (h5 : a ≠ 101) (h6 : a ≠ 102) : F_sh e σ a = σ a := by
  unfold F_sh
  rw [wr_off h6, wr_off h5, cpx_offr h4, wr_off h3]
theorem old_eq {e r v : Int} {σ : Hp} : F_tells e (σ 97 (28 * e + 1)) (σ 97 (28 * e)) r v (F_sh e σ) = F_old e r v σ := by
  have tc := tells_c (e := e) (k := σ 97 (28 * e + 1)) (n := σ 97 (28 * e)) (r := r) (v := v) (σ := σ) (τ := F_sh e σ) (sh_off (by decide) (by decide) (by decide) (by decide)) (sh_off (by decide) (by decide) (by decide) (by decide))
  funext c
  by_cases c1 : c = 110
  · subst c1
    rw [tc.1]
    unfold F_old
    rw [wr_off (by decide), wr_off (by decide), cpx_offr (by decide), wr_off (by decide)]
  · by_cases c2 : c = 112
    · subst c2
      rw [tc.2]
      unfold F_old
      rw [wr_off (by decide), wr_off (by decide), cpx_offr (by decide), wr_off (by decide)]
    · rw [tells_off c1 c2]
      have t1 : F_tells e (σ 97 (28 * e + 1)) (σ 97 (28 * e)) r v σ c = σ c := tells_off c1 c2
      have t2 : F_tells e (σ 97 (28 * e + 1)) (σ 97 (28 * e)) r v σ 97 = σ 97 := tells_off (by decide) (by decide)
      unfold F_sh F_old
      funext j
      simp only [wr, cpx, t1, t2]
section K1
variable {G : GG} {b : Nat × Nat} {Q : Option VV → Hp → Prop} {ρ σ h : Hp} {n : Int}
theorem K_ninit {x e k nb r v : Int} (hx : x = h 0 0 + 1) (hk : Q none (ntc h e k nb r v)) : Runs G mm_X4_init [vR x, vI e, vI k, vI nb, vI r, vI v] (nw h 5 0) Q := by
  subst hx
  refine rn_X4_init ⟨?_, ?_⟩
  · rw [nw_new, if_pos rfl]
  · simp only [forall_eq]
    exact hk
theorem K_push {x y e k nb r v : Int} (hC : CR ρ n σ h) (h0 : 0 ≤ e) (h1 : e < 4) (hz : ∀ x, 0 ≤ x → x < 2 → 0 ≤ σ 111 x ∧ σ 111 x ≤ σ 112 x ∧ σ 112 x < 600) (hw : σ 112 (e % 2) < 512) (hx : x = h 0 0 + 1) (hy : y = 35 + 7 * (e % 2)) (hk : ∀ g, CR ρ (n + 1) (F_tells e k nb r v σ) g → Q none g) : Runs G mm_X2_pushNotice [vR y, vR x] (ntc h e k nb r v) Q := by
  subst hx hy
  have hb := hC.b
  have hj := hz (e % 2) (by omega) (by omega)
  obtain ⟨q1, A, q2, q3, q4, q5⟩ := hC.n (e % 2) (by omega) (by omega)
  have row : ntc h e k nb r v (35 + 7 * (e % 2)) = h (35 + 7 * (e % 2)) := ntc_row (by omega) (by omega)
  have hT := hC.T
  have hs : h (35 + 7 * (e % 2)) (-1) = 3 := (hT.2.2.2.2.2.2.1 (e % 2) (by omega) (by omega)).2.1
  refine rn_X2_pushNotice ?_
  rw [row, hs, q1]
  by_cases hE : σ 111 (e % 2) = σ 112 (e % 2)
  · have n3 : h (35 + 7 * (e % 2)) 3 = 0 := by rw [q5, if_pos hE]
    rw [n3]
    refine ⟨rfl, fun _ => ⟨fun q => absurd rfl q, fun _ => ?_⟩, fun q => by omega⟩
    simp only [forall_eq]
    refine ⟨by unfold inI; omega, hk _ ?_⟩
    have := cr_tellE (k := k) (nb := nb) (r := r) (v := v) hC h0 h1 hz hE
    rw [q1] at this
    exact this
  · have n3 : h (35 + 7 * (e % 2)) 3 = A (σ 112 (e % 2) - 1) := by rw [q5, if_neg hE]
    obtain ⟨p1, p2, -⟩ := q2 (σ 112 (e % 2) - 1) (by omega) (by omega)
    refine ⟨rfl, fun _ => ⟨fun _ => ⟨?_, ?_⟩, fun q => by omega⟩, fun q => by omega⟩
    · rw [ntc_row (by omega) (by omega), n3]
      exact p2
    · simp only [forall_eq]
      refine ⟨by unfold inI; omega, hk _ ?_⟩
      have := cr_tellN (k := k) (nb := nb) (r := r) (v := v) hC h0 h1 hz hE
      rw [q1] at this
      exact this
theorem hz_of {σ : Hp} {n m : Int} (hI : IV σ n m) : ∀ x, 0 ≤ x → x < 2 → 0 ≤ σ 111 x ∧ σ 111 x ≤ σ 112 x ∧ σ 112 x < 600 := by
  intro x x0 x1
  have ht := hI.t x x0 x1
  have hn := hI.n
  have e1 := hI.e x x0 (by omega)
  have e2 := hI.e (x + 2) (by omega) (by omega)
  omega
theorem hr_of {σ : Hp} {n m : Int} (hI : IV σ n m) : ∀ x, 0 ≤ x → x < 4 → 0 ≤ σ 99 x ∧ σ 99 x ≤ 3 := fun x x0 x1 => (hI.e x x0 x1).2.2.2.2.1
theorem top_g {ρ σ τ h : Hp} {n m m' : Int} (hC : CR ρ n σ h) (hI : IV τ m m') (e96 : τ 96 = σ 96) (e99 : τ 99 = σ 99) : 117 ≤ h 0 0 ∧ h 0 0 ≤ 117 + n := by
  have hb := hC.b
  rw [CB, ← e96, ← e99] at hb
  have e0 := hI.e 0 (by decide) (by decide)
  have e1 := hI.e 1 (by decide) (by decide)
  have e2 := hI.e 2 (by decide) (by decide)
  have e3 := hI.e 3 (by decide) (by decide)
  omega
theorem top_of {ρ σ h : Hp} {n m m' : Int} (hC : CR ρ n σ h) (hI : IV σ m m') : 117 ≤ h 0 0 ∧ h 0 0 ≤ 117 + n := top_g hC hI rfl rfl
set_option maxHeartbeats 4000000 in
theorem L_shf {τ : Hp} {e r v m m' : Int} (hC : CR ρ n σ h) (hI : IV τ m m') (e96 : τ 96 = σ 96) (e99 : τ 99 = σ 99) (e111 : τ 111 = σ 111) (e112 : τ 112 = σ 112) (h0 : 0 ≤ e) (h1 : e < 4) (ho : 1 ≤ σ 96 e) (hn : n ≤ 1000) (hb1 : 1 ≤ b.1) (hb2 : 6 ≤ b.2) (hk : ∀ g, CR ρ n (F_old e r v σ) g → Q none g) : ∀ (j : Nat) (i : Int), 1 ≤ i → i + j = σ 96 e → AW G mm_X1_finishOldest b 18 [(0, vR (49 + 10 * e)), (1, vI r), (2, vI v), (3, vR (h (50 + 10 * e) 0)), (4, vI i)] [] (cpx h (50 + 10 * e) 0 (50 + 10 * e) 1 (i - 1)) Q := by
  have hb := top_g hC hI e96 e99
  obtain ⟨w1, w2, w3, w4⟩ := hC.w e h0 h1
  have wa := w2 0 (by omega) (by omega)
  have hJ := hI.j h0 h1
  have hIn := hI.n
  have hR := (hI.e e h0 h1).2.2.2.2.1
  rw [e112, e96, e99] at hJ
  rw [e99] at hR
  intro j
  induction j with
  | zero =>
    intro i i0 hi
    have hi2 : i = σ 96 e := by omega
    subst hi2
    have hTH : CT (cpx h (50 + 10 * e) 0 (50 + 10 * e) 1 (σ 96 e - 1)) := ct_cpx hC.T (by decide) (fun k k0 => by unfold Fx; omega)
    have h8 : cpx h (50 + 10 * e) 0 (50 + 10 * e) 1 (σ 96 e - 1) (49 + 10 * e) 8 = σ 96 e := by rw [cpx_off (by omega)]; exact (hC.e e h0 h1).2.2.1
    have a1 : cpx h (50 + 10 * e) 0 (50 + 10 * e) 1 (σ 96 e - 1) (h (50 + 10 * e) 0) 1 = σ 97 (28 * e + 1) := by rw [cpx_off (by omega), w4 0 1 (by omega) (by omega) (by omega) (by omega), show 28 * e + 7 * 0 + 1 = 28 * e + 1 by omega]
    have a0 : cpx h (50 + 10 * e) 0 (50 + 10 * e) 1 (σ 96 e - 1) (h (50 + 10 * e) 0) 0 = σ 97 (28 * e) := by rw [cpx_off (by omega), w4 0 0 (by omega) (by omega) (by omega) (by omega), show 28 * e + 7 * 0 + 0 = 28 * e by omega]
    have as : cpx h (50 + 10 * e) 0 (50 + 10 * e) 1 (σ 96 e - 1) (h (50 + 10 * e) 0) (-1) = 9 := hTH.2.2.2.2.2.2.2.2.2.2 _ (by omega) (by omega) (by omega)
    have hD := cr_sc (v := 0) (a := 102) (k := 12) (cr_sc (v := 0) (a := 101) (k := 11) (cr_shf hC h0 h1 ho) h0 h1 (by omega)) h0 h1 (by omega)
    refine sg_X1_finishOldest_18 ?_
    simp (disch := omega) only [hTH, h8, a0, a1, as, forall_eq, true_and, and_true, inI]
    refine ⟨fun _ => ⟨by omega, by omega, by omega, ?_, hb1, hb2, ?_⟩, fun q => by omega⟩
    · simp (disch := omega) only [wr_a, cpx_off]
      omega
    · refine K_ninit rfl ?_
      refine sg_X1_finishOldest_104 ⟨?_, ?_⟩
      · rw [ntc_row (by simp (disch := omega) only [wr_a, cpx_off]; omega) (by omega)]
        simp (disch := omega) only [wr_s]
        exact (hTH.2.2.2.2.2.2.1 (e % 2) (by omega) (by omega)).2.1
      · refine K_push hD h0 h1 ?_ ?_ rfl rfl ?_
        · have hz := hz_of hI
          intro x x0 x1
          show 0 ≤ F_sh e σ 111 x ∧ F_sh e σ 111 x ≤ F_sh e σ 112 x ∧ F_sh e σ 112 x < 600
          rw [sh_off (by decide) (by decide) (by decide) (by decide), sh_off (by decide) (by decide) (by decide) (by decide)]
          have hz2 := hz x x0 x1
          rw [e111, e112] at hz2
          exact hz2
        · show F_sh e σ 112 (e % 2) < 512
          rw [sh_off (by decide) (by decide) (by decide) (by decide)]
          omega
        · intro g hg
          refine sg_X1_finishOldest_107 (hk g ?_)
          have := old_eq (e := e) (r := r) (v := v) (σ := σ)
          rw [← this, show n = n - 1 + 1 by omega]
          exact hg
  | succ j ih =>
    intro i i0 hi
    have hTH : CT (cpx h (50 + 10 * e) 0 (50 + 10 * e) 1 (i - 1)) := ct_cpx hC.T (by decide) (fun k k0 => by unfold Fx; omega)
    have h8 : cpx h (50 + 10 * e) 0 (50 + 10 * e) 1 (i - 1) (49 + 10 * e) 8 = σ 96 e := by rw [cpx_off (by omega)]; exact (hC.e e h0 h1).2.2.1
    have ai : cpx h (50 + 10 * e) 0 (50 + 10 * e) 1 (i - 1) (50 + 10 * e) i = h (50 + 10 * e) i := cpx_out (by omega)
    have wi := w2 i (by omega) (by omega)
    have as : cpx h (50 + 10 * e) 0 (50 + 10 * e) 1 (i - 1) (h (50 + 10 * e) i) (-1) = 9 := hTH.2.2.2.2.2.2.2.2.2.2 _ (by omega) (by omega) (by omega)
    have st : wr (cpx h (50 + 10 * e) 0 (50 + 10 * e) 1 (i - 1)) (50 + 10 * e) (i - 1) (h (50 + 10 * e) i) = cpx h (50 + 10 * e) 0 (50 + 10 * e) 1 (i + 1 - 1) := by
      have := cpx_s (σ := h) (a := 50 + 10 * e) (dst := 0) (b := 50 + 10 * e) (src := 1) (n := i - 1) (by omega) (by omega)
      rw [show (0 : Int) + (i - 1) = i - 1 by omega, show (1 : Int) + (i - 1) = i by omega, show i - 1 + 1 = i + 1 - 1 by omega, ai] at this
      exact this
    refine sg_X1_finishOldest_18 ?_
    simp (disch := omega) only [hTH, h8, ai, as, forall_eq, true_and, and_true, inI, st]
    refine ⟨fun q => by omega, fun _ => ⟨by omega, by omega, by omega, by omega, by omega, by omega, ih (i + 1) (by omega) (by omega)⟩⟩
set_option maxHeartbeats 4000000 in
theorem K_oldg {τ : Hp} {e r v m m' : Int} (hC : CR ρ n σ h) (hI : IV τ m m') (e96 : τ 96 = σ 96) (e99 : τ 99 = σ 99) (e111 : τ 111 = σ 111) (e112 : τ 112 = σ 112) (h0 : 0 ≤ e) (h1 : e < 4) (ho : 1 ≤ σ 96 e) (hn : n ≤ 1000) (hk : ∀ g, CR ρ n (F_old e r v σ) g → Q none g) : Runs G mm_X1_finishOldest [vR (49 + 10 * e), vI r, vI v] h Q := by
  have hT := hC.T
  have hE := hC.e
  have L := L_shf (G := G) (b := (1, 6)) (r := r) (v := v) hC hI e96 e99 e111 e112 h0 h1 ho hn (by decide) (by decide) hk (σ 96 e - 1).toNat 1 (by omega) (by omega)
  rw [show (1 : Int) - 1 = 0 by omega, cpx_0] at L
  refine rn_X1_finishOldest ?_
  simp (disch := omega) only [hT, hE, true_and, and_true]
  exact ⟨fun _ => ⟨by omega, L⟩, fun q => by omega⟩
theorem K_old {e r v m m' : Int} (hC : CR ρ n σ h) (hI : IV σ m m') (h0 : 0 ≤ e) (h1 : e < 4) (ho : 1 ≤ σ 96 e) (hn : n ≤ 1000) (hk : ∀ g, CR ρ n (F_old e r v σ) g → Q none g) : Runs G mm_X1_finishOldest [vR (49 + 10 * e), vI r, vI v] h Q := K_oldg hC hI rfl rfl rfl rfl h0 h1 ho hn hk
theorem shw_w {e a x : Int} {σ : Hp} (ha : a = 101 ∨ a = 102) : F_sh e (wr σ a e x) = F_sh e σ := by
  unfold F_sh
  funext c j
  simp only [wr, cpx]
  rcases ha with rfl | rfl <;> (repeat' split) <;> first | rfl | omega
theorem old_w {e a x r v : Int} {σ : Hp} (ha : a = 101 ∨ a = 102) : F_old e r v (wr σ a e x) = F_old e r v σ := by
  rw [← old_eq, ← old_eq, shw_w ha, wr_a (by omega), wr_a (by omega)]
/-- with the tries or busies just counted up -/
theorem K_oldt {e r v m m' a x : Int} (ha : a = 101 ∨ a = 102) (hC : CR ρ n (wr σ a e x) h) (hI : IV σ m m') (h0 : 0 ≤ e) (h1 : e < 4) (ho : 1 ≤ σ 96 e) (hn : n ≤ 1000) (hk : ∀ g, CR ρ n (F_old e r v σ) g → Q none g) : Runs G mm_X1_finishOldest [vR (49 + 10 * e), vI r, vI v] h Q :=
  K_oldg hC hI (wr_off (by omega)).symm (wr_off (by omega)).symm (wr_off (by omega)).symm (wr_off (by omega)).symm h0 h1 (by rw [wr_a (by omega)]; exact ho) hn (fun g hg => hk g (by rw [old_w ha] at hg; exact hg))
end K1
