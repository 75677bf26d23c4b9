/-! told, asked for, sent, taken: class and reference side by side -/
def ntc (h : Hp) (e k nb r v : Int) : Hp := wr (wr (wr (wr (wr (wr (nw h 5 0) (h 0 0 + 1) 5 0) (h 0 0 + 1) 0 e) (h 0 0 + 1) 1 k) (h 0 0 + 1) 2 nb) (h 0 0 + 1) 3 r) (h 0 0 + 1) 4 v
section NT
variable {h : Hp} {e k nb r v : Int}
theorem ntc_row {b : Int} (hb : b ≠ h 0 0 + 1) (h1 : 1 ≤ b) : ntc h e k nb r v b = h b := by
  unfold ntc
  rw [wr_off hb, wr_off hb, wr_off hb, wr_off hb, wr_off hb, wr_off hb, nw_row hb h1]
theorem ntc_top (ht : 0 ≤ h 0 0) : ntc h e k nb r v 0 0 = h 0 0 + 1 := by
  unfold ntc
  rw [wr_a (by omega), wr_a (by omega), wr_a (by omega), wr_a (by omega), wr_a (by omega), wr_a (by omega), nw_top ht]
theorem ntc_new : ntc h e k nb r v (h 0 0 + 1) (-1) = 5 ∧ ntc h e k nb r v (h 0 0 + 1) 0 = e ∧ ntc h e k nb r v (h 0 0 + 1) 1 = k ∧ ntc h e k nb r v (h 0 0 + 1) 2 = nb ∧ ntc h e k nb r v (h 0 0 + 1) 3 = r ∧ ntc h e k nb r v (h 0 0 + 1) 4 = v ∧ ntc h e k nb r v (h 0 0 + 1) 5 = 0 := by
  unfold ntc
  refine ⟨?_, ?_, ?_, ?_, ?_, ?_, ?_⟩
  · rw [wr_s (by decide), wr_s (by decide), wr_s (by decide), wr_s (by decide), wr_s (by decide), wr_s (by decide), nw_new, if_pos rfl]
  all_goals simp (disch := omega) only [wr_k, wr_e]
end NT
theorem tells_110o {e k n r v y : Int} {σ : Hp} (h : y < T0 e σ ∨ T0 e σ + 5 ≤ y) : F_tells e k n r v σ 110 y = σ 110 y := by
  unfold F_tells
  rw [wr_a (by decide), wr_k (by omega), wr_k (by omega), wr_k (by omega), wr_k (by omega), wr_k (by omega)]
theorem tells_110n {e k n r v : Int} {σ : Hp} : F_tells e k n r v σ 110 (T0 e σ) = e ∧ F_tells e k n r v σ 110 (T0 e σ + 1) = k ∧ F_tells e k n r v σ 110 (T0 e σ + 2) = n ∧ F_tells e k n r v σ 110 (T0 e σ + 3) = r ∧ F_tells e k n r v σ 110 (T0 e σ + 4) = v := by
  unfold F_tells
  refine ⟨?_, ?_, ?_, ?_, ?_⟩ <;> simp (disch := omega) only [wr_a, wr_k, wr_e]
section CU
variable {ρ σ h : Hp} {n : Int}
set_option maxHeartbeats 4000000 in
theorem cr_tellE {e k nb r v : Int} (hC : CR ρ n σ h) (h0 : 0 ≤ e) (h1 : e < 4) (hz : ∀ x, 0 ≤ x → x < 2 → 0 ≤ σ 111 x ∧ σ 111 x ≤ σ 112 x ∧ σ 112 x < 600) (hE : σ 111 (e % 2) = σ 112 (e % 2)) : CR ρ (n + 1) (F_tells e k nb r v σ) (wr (wr (wr (ntc h e k nb r v) (35 + 7 * (e % 2)) 2 (h 0 0 + 1)) (35 + 7 * (e % 2)) 3 (h 0 0 + 1)) (35 + 7 * (e % 2)) 4 (h (35 + 7 * (e % 2)) 4 + 1)) := by
  have hb := hC.b
  have hj := hz (e % 2) (by omega) (by omega)
  obtain ⟨q1, A, q2, q3, q4, q5⟩ := hC.n (e % 2) (by omega) (by omega)

  refine ⟨?_, ?_, ?_, ?_, ?_, ?_, ?_, ?_, ?_, ?_, ?_, ?_, ?_, ?_⟩
  · exact CO_c (by intros; simp (disch := omega) only [wr_off, ntc_row]) (by intros; simp (disch := omega) only [wr_off, ntc_row]) (by intros; simp (disch := omega) only [wr_off, ntc_row]) (by intros; simp (disch := omega) only [wr_a, wr_k, ntc_row]) hC.o
  · refine ct_wr (ct_wr (ct_wr (CT_of hC.T (fun b y b1 b2 _ => by rw [ntc_row (by omega) b1])) (by unfold Fx; omega)) (by unfold Fx; omega)) (by unfold Fx; omega)
  · have hb := hC.b
    rw [CB, wr_a (by omega), wr_a (by omega), wr_a (by omega), ntc_top (by omega), tells_off (by decide) (by decide), tells_off (by decide) (by decide)]
    omega
  · exact Cc_c (by intros; simp (disch := omega) only [wr_off, ntc_row]) (by simp (disch := omega) only [tells_off]) hC.c
  · exact Ck_c (by intros; simp (disch := omega) only [wr_off, ntc_row]) (by simp (disch := omega) only [tells_off]) (by simp (disch := omega) only [tells_off]) (by simp (disch := omega) only [tells_off]) hC.k
  · exact CE_c (by intros; simp (disch := omega) only [wr_off, ntc_row]) (by intros; simp (disch := omega) only [wr_off, ntc_row]) (by simp (disch := omega) only [tells_off]) (by simp (disch := omega) only [tells_off]) (by simp (disch := omega) only [tells_off]) (by simp (disch := omega) only [tells_off]) (by simp (disch := omega) only [tells_off]) (by simp (disch := omega) only [tells_off]) (by simp (disch := omega) only [tells_off]) (by simp (disch := omega) only [tells_off]) (by simp (disch := omega) only [tells_off]) (by simp (disch := omega) only [tells_off]) (by simp (disch := omega) only [tells_off]) hC.e
  · exact Cw_c (by intros; simp (disch := omega) only [wr_off, ntc_row]) (by intros; simp (disch := omega) only [wr_off, ntc_row]) (by simp (disch := omega) only [tells_off]) (by simp (disch := omega) only [tells_off]) hC.w
  · exact Cr_c (by intros; simp (disch := omega) only [wr_off, ntc_row]) (by simp (disch := omega) only [tells_off]) (by simp (disch := omega) only [tells_off]) hC.r
  · exact Cg_c (by intros; simp (disch := omega) only [wr_off, ntc_row]) (by intros; simp (disch := omega) only [wr_off, ntc_row]) (by simp (disch := omega) only [tells_off]) (by simp (disch := omega) only [tells_off]) hC.g
  · exact Cp_c (by intros; simp (disch := omega) only [wr_a, wr_k, ntc_row]) (by intros; simp (disch := omega) only [wr_a, wr_k, ntc_row]) (by intros; simp (disch := omega) only [wr_a, wr_k, ntc_row]) (by intros; simp (disch := omega) only [wr_off, ntc_row]) (by intros; simp (disch := omega) only [wr_off, ntc_row]) (by intros; simp (disch := omega) only [wr_off, ntc_row]) (by simp (disch := omega) only [tells_off]) (by simp (disch := omega) only [tells_off]) (by simp (disch := omega) only [tells_off]) (by simp (disch := omega) only [tells_off]) (by simp (disch := omega) only [tells_off]) hC.p
  · exact Cd_c (by simp only [wr]; rw [if_neg (by omega), if_neg (by omega), if_neg (by omega), ntc_row (by omega) (by omega)]) (by simp only [wr]; rw [if_neg (by omega), if_neg (by omega), if_neg (by omega), ntc_row (by omega) (by omega)]) (by simp (disch := omega) only [tells_off]) hC.d
  · intro x x0 x1
    by_cases hx : x = e % 2
    · subst hx
      rw [tells_112, tells_off (by decide) (by decide)]
      refine ⟨?_, fun i => if i = σ 112 (e % 2) then h 0 0 + 1 else A i, ?_, ?_, ?_, ?_⟩
      · rw [wr_e, q1]
        omega
      · intro i i0 i1
        rw [tells_off (by decide) (by decide)] at i0
        rw [tells_112] at i1
        rw [tells_112]
        dsimp only
        by_cases hi : i = σ 112 (e % 2)
        · obtain ⟨w0, w1, w2, w3, w4, w5, w6⟩ := ntc_new (h := h) (e := e) (k := k) (nb := nb) (r := r) (v := v)
          obtain ⟨t1, t2, t3, t4, t5⟩ := tells_110n (e := e) (k := k) (n := nb) (r := r) (v := v) (σ := σ)
          rw [if_pos hi, if_pos (by omega)]
          simp (disch := omega) only [wr_a]
          refine ⟨⟨by omega, by rw [ntc_top (by omega)]; omega⟩, w0, by rw [w1], fun y y0 y1 => ?_, w6⟩
          rw [show 5 * (600 * (e % 2) + i) + y = T0 e σ + y by unfold T0; omega]
          rcases (show y = 0 ∨ y = 1 ∨ y = 2 ∨ y = 3 ∨ y = 4 by omega) with rfl | rfl | rfl | rfl | rfl
          · rw [w1, Int.add_zero, t1]
          · rw [w2, t2]
          · rw [w3, t3]
          · rw [w4, t4]
          · rw [w5, t5]
        · obtain ⟨p1, p2, p3, p4, p5⟩ := q2 i i0 (by omega)
          rw [if_neg hi, if_neg (by omega)]
          omega
      · intro i i' i0 i1 i2
        rw [tells_off (by decide) (by decide)] at i0
        rw [tells_112] at i2
        dsimp only
        rw [if_neg (by omega)]
        split
        · have := (q2 i i0 (by omega)).1
          omega
        · exact q3 i i' i0 i1 (by omega)
      · rw [tells_112, tells_off (by decide) (by decide), if_neg (by omega)]
        dsimp only
        rw [if_pos (by omega), wr_k (by decide), wr_k (by decide), wr_e]
      · rw [tells_112, tells_off (by decide) (by decide), if_neg (by omega)]
        dsimp only
        rw [if_pos (by omega), wr_k (by decide), wr_e]
    · obtain ⟨u1, B, u2, u3, u4, u5⟩ := hC.n x x0 x1
      have hj2 := hz x x0 x1
      rw [tells_112o hx, tells_off (by decide) (by decide)]
      refine ⟨?_, B, ?_⟩
      · simp (disch := omega) only [wr_a, ntc_row]
        exact u1
      · rw [Ch, tells_112o hx, tells_off (by decide) (by decide)]
        refine ⟨fun i i0 i1 => ?_, u3, ?_, ?_⟩
        · obtain ⟨p1, p2, p3, p4, p5⟩ := u2 i i0 i1
          rw [wr_off (b := B i) (by omega), wr_off (b := B i) (by omega), wr_off (b := B i) (by omega), ntc_row (b := B i) (by omega) (by omega)]
          rw [wr_top (by omega), wr_top (by omega), wr_top (by omega), ntc_top (by omega)]
          refine ⟨⟨p1.1, by omega⟩, p2, p3, fun y y0 y1 => ?_, p5⟩
          rw [tells_110o (by unfold T0; omega)]
          exact p4 y y0 y1
        · simp (disch := omega) only [wr_a, ntc_row]
          exact u4
        · simp (disch := omega) only [wr_a, ntc_row]
          exact u5
  · exact Cl_c (by intros; simp (disch := omega) only [wr_a, wr_k, ntc_row]) (by intros; simp (disch := omega) only [wr_a, wr_k, ntc_row]) (by intro b b0 b1 x x1; simp only [wr]; rw [if_neg (by omega), if_neg (by omega), if_neg (by omega), ntc_row (by omega) (by omega)]) (by rw [wr_a (by omega), wr_a (by omega), wr_a (by omega), ntc_top (by omega)]; omega) (by simp (disch := omega) only [tells_off]) (by simp (disch := omega) only [tells_off]) hC.l
  · exact Cx_c (by intros; simp (disch := omega) only [wr_a, wr_k, ntc_row]) (by intros; simp (disch := omega) only [wr_off, ntc_row]) (by simp (disch := omega) only [tells_off]) (by simp (disch := omega) only [tells_off]) hC.x
set_option maxHeartbeats 4000000 in
theorem cr_tellN {e k nb r v : Int} (hC : CR ρ n σ h) (h0 : 0 ≤ e) (h1 : e < 4) (hz : ∀ x, 0 ≤ x → x < 2 → 0 ≤ σ 111 x ∧ σ 111 x ≤ σ 112 x ∧ σ 112 x < 600) (hE : ¬ σ 111 (e % 2) = σ 112 (e % 2)) : CR ρ (n + 1) (F_tells e k nb r v σ) (wr (wr (wr (ntc h e k nb r v) (h (35 + 7 * (e % 2)) 3) 5 (h 0 0 + 1)) (35 + 7 * (e % 2)) 3 (h 0 0 + 1)) (35 + 7 * (e % 2)) 4 (h (35 + 7 * (e % 2)) 4 + 1)) := by
  have hb := hC.b
  have hj := hz (e % 2) (by omega) (by omega)
  obtain ⟨q1, A, q2, q3, q4, q5⟩ := hC.n (e % 2) (by omega) (by omega)
  have hN : h (35 + 7 * (e % 2)) 3 = A (σ 112 (e % 2) - 1) := by rw [q5, if_neg (by omega)]
  have hM := q2 (σ 112 (e % 2) - 1) (by omega) (by omega)
  have hM1 := hM.1
  refine ⟨?_, ?_, ?_, ?_, ?_, ?_, ?_, ?_, ?_, ?_, ?_, ?_, ?_, ?_⟩
  · exact CO_c (by intros; simp (disch := omega) only [wr_off, ntc_row]) (by intros; simp (disch := omega) only [wr_off, ntc_row]) (by intros; simp (disch := omega) only [wr_off, ntc_row]) (by intros; simp (disch := omega) only [wr_a, wr_k, ntc_row]) hC.o
  · refine ct_wr (ct_wr (ct_wr (CT_of hC.T (fun b y b1 b2 _ => by rw [ntc_row (by omega) b1])) (by unfold Fx; omega)) (by unfold Fx; omega)) (by unfold Fx; omega)
  · have hb := hC.b
    rw [CB, wr_a (by omega), wr_a (by omega), wr_a (by omega), ntc_top (by omega), tells_off (by decide) (by decide), tells_off (by decide) (by decide)]
    omega
  · exact Cc_c (by intros; simp (disch := omega) only [wr_off, ntc_row]) (by simp (disch := omega) only [tells_off]) hC.c
  · exact Ck_c (by intros; simp (disch := omega) only [wr_off, ntc_row]) (by simp (disch := omega) only [tells_off]) (by simp (disch := omega) only [tells_off]) (by simp (disch := omega) only [tells_off]) hC.k
  · exact CE_c (by intros; simp (disch := omega) only [wr_off, ntc_row]) (by intros; simp (disch := omega) only [wr_off, ntc_row]) (by simp (disch := omega) only [tells_off]) (by simp (disch := omega) only [tells_off]) (by simp (disch := omega) only [tells_off]) (by simp (disch := omega) only [tells_off]) (by simp (disch := omega) only [tells_off]) (by simp (disch := omega) only [tells_off]) (by simp (disch := omega) only [tells_off]) (by simp (disch := omega) only [tells_off]) (by simp (disch := omega) only [tells_off]) (by simp (disch := omega) only [tells_off]) (by simp (disch := omega) only [tells_off]) hC.e
  · exact Cw_c (by intros; simp (disch := omega) only [wr_off, ntc_row]) (by intros; simp (disch := omega) only [wr_off, ntc_row]) (by simp (disch := omega) only [tells_off]) (by simp (disch := omega) only [tells_off]) hC.w
  · exact Cr_c (by intros; simp (disch := omega) only [wr_off, ntc_row]) (by simp (disch := omega) only [tells_off]) (by simp (disch := omega) only [tells_off]) hC.r
  · exact Cg_c (by intros; simp (disch := omega) only [wr_off, ntc_row]) (by intros; simp (disch := omega) only [wr_off, ntc_row]) (by simp (disch := omega) only [tells_off]) (by simp (disch := omega) only [tells_off]) hC.g
  · exact Cp_c (by intros; simp (disch := omega) only [wr_a, wr_k, ntc_row]) (by intros; simp (disch := omega) only [wr_a, wr_k, ntc_row]) (by intros; simp (disch := omega) only [wr_a, wr_k, ntc_row]) (by intros; simp (disch := omega) only [wr_off, ntc_row]) (by intros; simp (disch := omega) only [wr_off, ntc_row]) (by intros; simp (disch := omega) only [wr_off, ntc_row]) (by simp (disch := omega) only [tells_off]) (by simp (disch := omega) only [tells_off]) (by simp (disch := omega) only [tells_off]) (by simp (disch := omega) only [tells_off]) (by simp (disch := omega) only [tells_off]) hC.p
  · exact Cd_c (by simp only [wr]; rw [if_neg (by omega), if_neg (by omega), if_neg (by omega), ntc_row (by omega) (by omega)]) (by simp only [wr]; rw [if_neg (by omega), if_neg (by omega), if_neg (by omega), ntc_row (by omega) (by omega)]) (by simp (disch := omega) only [tells_off]) hC.d
  · intro x x0 x1
    by_cases hx : x = e % 2
    · subst hx
      rw [tells_112, tells_off (by decide) (by decide)]
      refine ⟨?_, fun i => if i = σ 112 (e % 2) then h 0 0 + 1 else A i, ?_, ?_, ?_, ?_⟩
      · rw [wr_e, q1]
        omega
      · intro i i0 i1
        rw [tells_off (by decide) (by decide)] at i0
        rw [tells_112] at i1
        rw [tells_112]
        dsimp only
        by_cases hi : i = σ 112 (e % 2)
        · obtain ⟨w0, w1, w2, w3, w4, w5, w6⟩ := ntc_new (h := h) (e := e) (k := k) (nb := nb) (r := r) (v := v)
          obtain ⟨t1, t2, t3, t4, t5⟩ := tells_110n (e := e) (k := k) (n := nb) (r := r) (v := v) (σ := σ)
          rw [if_pos hi, if_pos (by omega)]
          simp (disch := omega) only [wr_a]
          refine ⟨⟨by omega, by rw [ntc_top (by omega)]; omega⟩, w0, by rw [w1], fun y y0 y1 => ?_, w6⟩
          rw [show 5 * (600 * (e % 2) + i) + y = T0 e σ + y by unfold T0; omega]
          rcases (show y = 0 ∨ y = 1 ∨ y = 2 ∨ y = 3 ∨ y = 4 by omega) with rfl | rfl | rfl | rfl | rfl
          · rw [w1, Int.add_zero, t1]
          · rw [w2, t2]
          · rw [w3, t3]
          · rw [w4, t4]
          · rw [w5, t5]
        · obtain ⟨p1, p2, p3, p4, p5⟩ := q2 i i0 (by omega)
          rw [if_neg hi, if_neg (by omega)]
          have hA : i < σ 112 (e % 2) - 1 → A i < A (σ 112 (e % 2) - 1) := fun hl => q3 i _ i0 hl (by omega)
          rw [wr_a (by omega), wr_a (by omega), wr_a (by omega), ntc_top (by omega)]
          refine ⟨⟨p1.1, by omega⟩, ?_, ?_, fun y y0 y1 => ?_, ?_⟩
          · rw [wr_s (by decide), wr_s (by decide), wr_s (by decide), ntc_row (by omega) (by omega)]
            exact p2
          · rw [wr_a (by omega), wr_a (by omega)]
            simp only [wr]
            rw [if_neg (by omega), ntc_row (by omega) (by omega)]
            exact p3
          · rw [tells_110o (by unfold T0; omega), wr_a (by omega), wr_a (by omega)]
            simp only [wr]
            rw [if_neg (by omega), ntc_row (by omega) (by omega)]
            exact p4 y y0 y1
          · rw [wr_a (by omega), wr_a (by omega)]
            simp only [wr]
            by_cases hl : i = σ 112 (e % 2) - 1
            · rw [if_pos ⟨by rw [hN, hl], trivial⟩, if_pos (by omega)]
            · have := hA (by omega)
              rw [if_neg (by omega), if_neg (by omega), ntc_row (by omega) (by omega), p5, if_neg (by omega)]
      · intro i i' i0 i1 i2
        rw [tells_off (by decide) (by decide)] at i0
        rw [tells_112] at i2
        dsimp only
        rw [if_neg (by omega)]
        split
        · have := (q2 i i0 (by omega)).1
          omega
        · exact q3 i i' i0 i1 (by omega)
      · rw [tells_112, tells_off (by decide) (by decide), if_neg (by omega)]
        dsimp only
        rw [if_neg (by omega), wr_k (by decide), wr_k (by decide), wr_a (by omega), ntc_row (by omega) (by omega), q4, if_neg (by omega)]
      · rw [tells_112, tells_off (by decide) (by decide), if_neg (by omega)]
        dsimp only
        rw [if_pos (by omega), wr_k (by decide), wr_e]
    · obtain ⟨u1, B, u2, u3, u4, u5⟩ := hC.n x x0 x1
      have hj2 := hz x x0 x1
      rw [tells_112o hx, tells_off (by decide) (by decide)]
      refine ⟨?_, B, ?_⟩
      · simp (disch := omega) only [wr_a, ntc_row]
        exact u1
      · rw [Ch, tells_112o hx, tells_off (by decide) (by decide)]
        refine ⟨fun i i0 i1 => ?_, u3, ?_, ?_⟩
        · obtain ⟨p1, p2, p3, p4, p5⟩ := u2 i i0 i1
          have hne : ¬ B i = h (35 + 7 * (e % 2)) 3 := fun q => by rw [q, hN, hM.2.2.1] at p3; omega
          rw [wr_off (b := B i) (by omega), wr_off (b := B i) (by omega), wr_off (b := B i) hne, ntc_row (b := B i) (by omega) (by omega)]
          rw [wr_top (by omega), wr_top (by omega), wr_top (by omega), ntc_top (by omega)]
          refine ⟨⟨p1.1, by omega⟩, p2, p3, fun y y0 y1 => ?_, p5⟩
          rw [tells_110o (by unfold T0; omega)]
          exact p4 y y0 y1
        · simp (disch := omega) only [wr_a, ntc_row]
          exact u4
        · simp (disch := omega) only [wr_a, ntc_row]
          exact u5
  · exact Cl_c (by intros; simp (disch := omega) only [wr_a, wr_k, ntc_row]) (by intros; simp (disch := omega) only [wr_a, wr_k, ntc_row]) (by intro b b0 b1 x x1; simp only [wr]; rw [if_neg (by omega), if_neg (by omega), if_neg (by omega), ntc_row (by omega) (by omega)]) (by rw [wr_a (by omega), wr_a (by omega), wr_a (by omega), ntc_top (by omega)]; omega) (by simp (disch := omega) only [tells_off]) (by simp (disch := omega) only [tells_off]) hC.l
  · exact Cx_c (by intros; simp (disch := omega) only [wr_a, wr_k, ntc_row]) (by intros; simp (disch := omega) only [wr_off, ntc_row]) (by simp (disch := omega) only [tells_off]) (by simp (disch := omega) only [tells_off]) hC.x
end CU
