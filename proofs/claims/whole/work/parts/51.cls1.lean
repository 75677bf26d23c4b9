/-! steps that class and reference do side by side -/
section CS
variable {ρ σ h : Hp} {n : Int}
theorem CR.up {m : Int} (hC : CR ρ n σ h) (hn : n ≤ m) : CR ρ m σ h := by
  refine ⟨hC.o, hC.T, CB_c hn rfl rfl rfl hC.b, hC.c, hC.k, hC.e, hC.w, hC.r, hC.g, hC.p, hC.d, hC.n, hC.l, hC.x⟩
set_option maxHeartbeats 4000000 in
theorem cr_sc {a k e v : Int} (hC : CR ρ n σ h) (h0 : 0 ≤ e) (h1 : e < 4) (hk : (a = 94 ∧ k = 6) ∨ (a = 95 ∧ k = 7) ∨ (a = 98 ∧ k = 9) ∨ (a = 101 ∧ k = 11) ∨ (a = 102 ∧ k = 12) ∨ (a = 103 ∧ k = 13) ∨ (a = 106 ∧ k = 14) ∨ (a = 107 ∧ k = 15)) : CR ρ n (wr σ a e v) (wr h (49 + 10 * e) k v) := by
  refine ⟨?_, ?_, ?_, ?_, ?_, ?_, ?_, ?_, ?_, ?_, ?_, ?_, ?_, ?_⟩
  · exact CO_c (by intros; simp (disch := omega) only [wr_off, cpx_offr, nw_row]) (by intros; simp (disch := omega) only [wr_off, cpx_offr, nw_row]) (by intros; simp (disch := omega) only [wr_off, cpx_offr, nw_row]) (by intros; simp (disch := omega) only [wr_a, wr_k, cpx_off]) hC.o
  · exact ct_wr hC.T (by unfold Fx; omega)
  · exact CB_c (by omega) (by intros; simp (disch := omega) only [wr_a, wr_k, cpx_off]) (by simp (disch := omega) only [wr_off, cpx_offr]) (by simp (disch := omega) only [wr_off, cpx_offr]) hC.b
  · exact Cc_c (by intros; simp (disch := omega) only [wr_off, cpx_offr, nw_row]) (by simp (disch := omega) only [wr_off, cpx_offr]) hC.c
  · exact Ck_c (by intros; simp (disch := omega) only [wr_off, cpx_offr, nw_row]) (by simp (disch := omega) only [wr_off, cpx_offr]) (by simp (disch := omega) only [wr_off, cpx_offr]) (by simp (disch := omega) only [wr_off, cpx_offr]) hC.k
  · intro x x0 x1
    have hx := hC.e x x0 x1
    simp only [wr, true_and, and_true]
    refine ⟨?_, ?_, ?_, ?_, ?_, ?_, ?_, ?_, ?_, ?_, ?_⟩ <;> (repeat' split) <;> omega
  · exact Cw_c (by intros; simp (disch := omega) only [wr_off, cpx_offr, nw_row]) (by intros; simp (disch := omega) only [wr_off, cpx_offr, nw_row]) (by simp (disch := omega) only [wr_off, cpx_offr]) (by simp (disch := omega) only [wr_off, cpx_offr]) hC.w
  · exact Cr_c (by intros; simp (disch := omega) only [wr_off, cpx_offr, nw_row]) (by simp (disch := omega) only [wr_off, cpx_offr]) (by simp (disch := omega) only [wr_off, cpx_offr]) hC.r
  · exact Cg_c (by intros; simp (disch := omega) only [wr_off, cpx_offr, nw_row]) (by intros; simp (disch := omega) only [wr_off, cpx_offr, nw_row]) (by simp (disch := omega) only [wr_off, cpx_offr]) (by simp (disch := omega) only [wr_off, cpx_offr]) hC.g
  · exact Cp_c (by intros; simp (disch := omega) only [wr_a, wr_k, cpx_off]) (by intros; simp (disch := omega) only [wr_a, wr_k, cpx_off]) (by intros; simp (disch := omega) only [wr_a, wr_k, cpx_off]) (by intros; simp (disch := omega) only [wr_off, cpx_offr, nw_row]) (by intros; simp (disch := omega) only [wr_off, cpx_offr, nw_row]) (by intros; simp (disch := omega) only [wr_off, cpx_offr, nw_row]) (by intros; simp (disch := omega) only [wr_a, wr_k, cpx_off]) (by intros; simp (disch := omega) only [wr_a, wr_k, cpx_off]) (by intros; simp (disch := omega) only [wr_a, wr_k, cpx_off]) (by simp (disch := omega) only [wr_off, cpx_offr]) (by simp (disch := omega) only [wr_off, cpx_offr]) hC.p
  · exact Cd_c (by intros; simp (disch := omega) only [wr_a, wr_k, cpx_off]) (by intros; simp (disch := omega) only [wr_a, wr_k, cpx_off]) (by intros; simp (disch := omega) only [wr_a, wr_k, cpx_off]) hC.d
  · exact Cn_c (by intros; simp (disch := omega) only [wr_a, wr_k, cpx_off]) (by intros; simp (disch := omega) only [wr_a, wr_k, cpx_off]) (by intros; simp (disch := omega) only [wr_a, wr_k, cpx_off]) (by intros; simp (disch := omega) only [wr_off, cpx_offr, nw_row]) (Int.le_of_eq (by intros; simp (disch := omega) only [wr_a, wr_k, cpx_off])) (by simp (disch := omega) only [wr_off, cpx_offr]) (by simp (disch := omega) only [wr_off, cpx_offr]) (by simp (disch := omega) only [wr_off, cpx_offr]) hC.n
  · exact Cl_c (by intros; simp (disch := omega) only [wr_a, wr_k, cpx_off]) (by intros; simp (disch := omega) only [wr_a, wr_k, cpx_off]) (by intros; simp (disch := omega) only [wr_a, wr_k, cpx_off]) (Int.le_of_eq (by intros; simp (disch := omega) only [wr_a, wr_k, cpx_off])) (by intros; simp (disch := omega) only [wr_a, wr_k, cpx_off]) (by simp (disch := omega) only [wr_off, cpx_offr]) hC.l
  · exact Cx_c (by intros; simp (disch := omega) only [wr_a, wr_k, cpx_off]) (by intros; simp (disch := omega) only [wr_off, cpx_offr, nw_row]) (by intros; simp (disch := omega) only [wr_a, wr_k, cpx_off]) (by simp (disch := omega) only [wr_off, cpx_offr]) hC.x
set_option maxHeartbeats 4000000 in
theorem cr_cell {j c v : Int} (hC : CR ρ n σ h) (h0 : 0 ≤ j) (h1 : j < 2) (c0 : 0 ≤ c) (c1 : c < 12) : CR ρ n (wr σ 90 (12 * j + c) v) (wr h (36 + 7 * j) c v) := by
  refine ⟨?_, ?_, ?_, ?_, ?_, ?_, ?_, ?_, ?_, ?_, ?_, ?_, ?_, ?_⟩
  · exact CO_c (by intros; simp (disch := omega) only [wr_off, cpx_offr, nw_row]) (by intros; simp (disch := omega) only [wr_off, cpx_offr, nw_row]) (by intros; simp (disch := omega) only [wr_off, cpx_offr, nw_row]) (by intros; simp (disch := omega) only [wr_a, wr_k, cpx_off]) hC.o
  · exact ct_wr hC.T (by unfold Fx; omega)
  · exact CB_c (by omega) (by intros; simp (disch := omega) only [wr_a, wr_k, cpx_off]) (by simp (disch := omega) only [wr_off, cpx_offr]) (by simp (disch := omega) only [wr_off, cpx_offr]) hC.b
  · intro x y x0 x1 y0 y1
    have hx := hC.c x y x0 x1 y0 y1
    simp only [wr, true_and, and_true]
    (repeat' split) <;> omega
  · exact Ck_c (by intros; simp (disch := omega) only [wr_off, cpx_offr, nw_row]) (by simp (disch := omega) only [wr_off, cpx_offr]) (by simp (disch := omega) only [wr_off, cpx_offr]) (by simp (disch := omega) only [wr_off, cpx_offr]) hC.k
  · exact CE_c (by intros; simp (disch := omega) only [wr_off, cpx_offr, nw_row]) (by intros; simp (disch := omega) only [wr_off, cpx_offr, nw_row]) (by simp (disch := omega) only [wr_off, cpx_offr]) (by simp (disch := omega) only [wr_off, cpx_offr]) (by simp (disch := omega) only [wr_off, cpx_offr]) (by simp (disch := omega) only [wr_off, cpx_offr]) (by simp (disch := omega) only [wr_off, cpx_offr]) (by simp (disch := omega) only [wr_off, cpx_offr]) (by simp (disch := omega) only [wr_off, cpx_offr]) (by simp (disch := omega) only [wr_off, cpx_offr]) (by simp (disch := omega) only [wr_off, cpx_offr]) (by simp (disch := omega) only [wr_off, cpx_offr]) (by simp (disch := omega) only [wr_off, cpx_offr]) hC.e
  · exact Cw_c (by intros; simp (disch := omega) only [wr_off, cpx_offr, nw_row]) (by intros; simp (disch := omega) only [wr_off, cpx_offr, nw_row]) (by simp (disch := omega) only [wr_off, cpx_offr]) (by simp (disch := omega) only [wr_off, cpx_offr]) hC.w
  · exact Cr_c (by intros; simp (disch := omega) only [wr_off, cpx_offr, nw_row]) (by simp (disch := omega) only [wr_off, cpx_offr]) (by simp (disch := omega) only [wr_off, cpx_offr]) hC.r
  · exact Cg_c (by intros; simp (disch := omega) only [wr_off, cpx_offr, nw_row]) (by intros; simp (disch := omega) only [wr_off, cpx_offr, nw_row]) (by simp (disch := omega) only [wr_off, cpx_offr]) (by simp (disch := omega) only [wr_off, cpx_offr]) hC.g
  · exact Cp_c (by intros; simp (disch := omega) only [wr_a, wr_k, cpx_off]) (by intros; simp (disch := omega) only [wr_a, wr_k, cpx_off]) (by intros; simp (disch := omega) only [wr_a, wr_k, cpx_off]) (by intros; simp (disch := omega) only [wr_off, cpx_offr, nw_row]) (by intros; simp (disch := omega) only [wr_off, cpx_offr, nw_row]) (by intros; simp (disch := omega) only [wr_off, cpx_offr, nw_row]) (by intros; simp (disch := omega) only [wr_a, wr_k, cpx_off]) (by intros; simp (disch := omega) only [wr_a, wr_k, cpx_off]) (by intros; simp (disch := omega) only [wr_a, wr_k, cpx_off]) (by simp (disch := omega) only [wr_off, cpx_offr]) (by simp (disch := omega) only [wr_off, cpx_offr]) hC.p
  · exact Cd_c (by intros; simp (disch := omega) only [wr_a, wr_k, cpx_off]) (by intros; simp (disch := omega) only [wr_a, wr_k, cpx_off]) (by intros; simp (disch := omega) only [wr_a, wr_k, cpx_off]) hC.d
  · exact Cn_c (by intros; simp (disch := omega) only [wr_a, wr_k, cpx_off]) (by intros; simp (disch := omega) only [wr_a, wr_k, cpx_off]) (by intros; simp (disch := omega) only [wr_a, wr_k, cpx_off]) (by intros; simp (disch := omega) only [wr_off, cpx_offr, nw_row]) (Int.le_of_eq (by intros; simp (disch := omega) only [wr_a, wr_k, cpx_off])) (by simp (disch := omega) only [wr_off, cpx_offr]) (by simp (disch := omega) only [wr_off, cpx_offr]) (by simp (disch := omega) only [wr_off, cpx_offr]) hC.n
  · exact Cl_c (by intros; simp (disch := omega) only [wr_a, wr_k, cpx_off]) (by intros; simp (disch := omega) only [wr_a, wr_k, cpx_off]) (by intros; simp (disch := omega) only [wr_a, wr_k, cpx_off]) (Int.le_of_eq (by intros; simp (disch := omega) only [wr_a, wr_k, cpx_off])) (by intros; simp (disch := omega) only [wr_a, wr_k, cpx_off]) (by simp (disch := omega) only [wr_off, cpx_offr]) hC.l
  · exact Cx_c (by intros; simp (disch := omega) only [wr_a, wr_k, cpx_off]) (by intros; simp (disch := omega) only [wr_off, cpx_offr, nw_row]) (by intros; simp (disch := omega) only [wr_a, wr_k, cpx_off]) (by simp (disch := omega) only [wr_off, cpx_offr]) hC.x
set_option maxHeartbeats 4000000 in
theorem cr_lost {v : Int} (hC : CR ρ n σ h) : CR ρ n (wr σ 89 29 v) (wr h 4 4 v) := by
  refine ⟨?_, ?_, ?_, ?_, ?_, ?_, ?_, ?_, ?_, ?_, ?_, ?_, ?_, ?_⟩
  · exact CO_c (by intros; simp (disch := omega) only [wr_off, cpx_offr, nw_row]) (by intros; simp (disch := omega) only [wr_off, cpx_offr, nw_row]) (by intros; simp (disch := omega) only [wr_off, cpx_offr, nw_row]) (by intros; simp (disch := omega) only [wr_a, wr_k, cpx_off]) hC.o
  · exact ct_wr hC.T (by unfold Fx; omega)
  · exact CB_c (by omega) (by intros; simp (disch := omega) only [wr_a, wr_k, cpx_off]) (by simp (disch := omega) only [wr_off, cpx_offr]) (by simp (disch := omega) only [wr_off, cpx_offr]) hC.b
  · exact Cc_c (by intros; simp (disch := omega) only [wr_off, cpx_offr, nw_row]) (by simp (disch := omega) only [wr_off, cpx_offr]) hC.c
  · exact Ck_c (by intros; simp (disch := omega) only [wr_off, cpx_offr, nw_row]) (by simp (disch := omega) only [wr_off, cpx_offr]) (by simp (disch := omega) only [wr_off, cpx_offr]) (by simp (disch := omega) only [wr_off, cpx_offr]) hC.k
  · exact CE_c (by intros; simp (disch := omega) only [wr_off, cpx_offr, nw_row]) (by intros; simp (disch := omega) only [wr_off, cpx_offr, nw_row]) (by simp (disch := omega) only [wr_off, cpx_offr]) (by simp (disch := omega) only [wr_off, cpx_offr]) (by simp (disch := omega) only [wr_off, cpx_offr]) (by simp (disch := omega) only [wr_off, cpx_offr]) (by simp (disch := omega) only [wr_off, cpx_offr]) (by simp (disch := omega) only [wr_off, cpx_offr]) (by simp (disch := omega) only [wr_off, cpx_offr]) (by simp (disch := omega) only [wr_off, cpx_offr]) (by simp (disch := omega) only [wr_off, cpx_offr]) (by simp (disch := omega) only [wr_off, cpx_offr]) (by simp (disch := omega) only [wr_off, cpx_offr]) hC.e
  · exact Cw_c (by intros; simp (disch := omega) only [wr_off, cpx_offr, nw_row]) (by intros; simp (disch := omega) only [wr_off, cpx_offr, nw_row]) (by simp (disch := omega) only [wr_off, cpx_offr]) (by simp (disch := omega) only [wr_off, cpx_offr]) hC.w
  · exact Cr_c (by intros; simp (disch := omega) only [wr_off, cpx_offr, nw_row]) (by simp (disch := omega) only [wr_off, cpx_offr]) (by simp (disch := omega) only [wr_off, cpx_offr]) hC.r
  · exact Cg_c (by intros; simp (disch := omega) only [wr_off, cpx_offr, nw_row]) (by intros; simp (disch := omega) only [wr_off, cpx_offr, nw_row]) (by simp (disch := omega) only [wr_off, cpx_offr]) (by simp (disch := omega) only [wr_off, cpx_offr]) hC.g
  · obtain ⟨⟨k1, k2, k3⟩, k4, k5, k6, k7, k8⟩ := hC.p
    refine ⟨⟨?_, ?_, ?_⟩, ?_, ?_, ?_, ?_, ?_⟩
    · simp (disch := omega) only [wr_k]; exact k1
    · simp only [wr_e]
    · simp (disch := omega) only [wr_k]; exact k3
    · simp (disch := omega) only [wr_k]; exact k4
    · simp (disch := omega) only [wr_off]; exact k5
    · simp (disch := omega) only [wr_off]; exact k6
    · simp (disch := omega) only [wr_off]; exact k7
    · intro i i0 i1
      simp (disch := omega) only [wr_k] at i1
      have hi := k6 i i0 (by omega)
      simp (disch := omega) only [PC, wr_off]
      exact k8 i i0 i1
  · exact Cd_c (by intros; simp (disch := omega) only [wr_a, wr_k, cpx_off]) (by intros; simp (disch := omega) only [wr_a, wr_k, cpx_off]) (by intros; simp (disch := omega) only [wr_a, wr_k, cpx_off]) hC.d
  · exact Cn_c (by intros; simp (disch := omega) only [wr_a, wr_k, cpx_off]) (by intros; simp (disch := omega) only [wr_a, wr_k, cpx_off]) (by intros; simp (disch := omega) only [wr_a, wr_k, cpx_off]) (by intros; simp (disch := omega) only [wr_off, cpx_offr, nw_row]) (Int.le_of_eq (by intros; simp (disch := omega) only [wr_a, wr_k, cpx_off])) (by simp (disch := omega) only [wr_off, cpx_offr]) (by simp (disch := omega) only [wr_off, cpx_offr]) (by simp (disch := omega) only [wr_off, cpx_offr]) hC.n
  · exact Cl_c (by intros; simp (disch := omega) only [wr_a, wr_k, cpx_off]) (by intros; simp (disch := omega) only [wr_a, wr_k, cpx_off]) (by intros; simp (disch := omega) only [wr_a, wr_k, cpx_off]) (Int.le_of_eq (by intros; simp (disch := omega) only [wr_a, wr_k, cpx_off])) (by intros; simp (disch := omega) only [wr_a, wr_k, cpx_off]) (by simp (disch := omega) only [wr_off, cpx_offr]) hC.l
  · exact Cx_c (by intros; simp (disch := omega) only [wr_a, wr_k, cpx_off]) (by intros; simp (disch := omega) only [wr_off, cpx_offr, nw_row]) (by intros; simp (disch := omega) only [wr_a, wr_k, cpx_off]) (by simp (disch := omega) only [wr_off, cpx_offr]) hC.x
set_option maxHeartbeats 4000000 in
theorem cr_now {v : Int} (hC : CR ρ n σ h) : CR ρ n (wr σ 89 19 v) (wr h 4 5 v) := by
  refine ⟨?_, ?_, ?_, ?_, ?_, ?_, ?_, ?_, ?_, ?_, ?_, ?_, ?_, ?_⟩
  · exact CO_c (by intros; simp (disch := omega) only [wr_off, cpx_offr, nw_row]) (by intros; simp (disch := omega) only [wr_off, cpx_offr, nw_row]) (by intros; simp (disch := omega) only [wr_off, cpx_offr, nw_row]) (by intros; simp (disch := omega) only [wr_a, wr_k, cpx_off]) hC.o
  · exact ct_wr hC.T (by unfold Fx; omega)
  · exact CB_c (by omega) (by intros; simp (disch := omega) only [wr_a, wr_k, cpx_off]) (by simp (disch := omega) only [wr_off, cpx_offr]) (by simp (disch := omega) only [wr_off, cpx_offr]) hC.b
  · exact Cc_c (by intros; simp (disch := omega) only [wr_off, cpx_offr, nw_row]) (by simp (disch := omega) only [wr_off, cpx_offr]) hC.c
  · exact Ck_c (by intros; simp (disch := omega) only [wr_off, cpx_offr, nw_row]) (by simp (disch := omega) only [wr_off, cpx_offr]) (by simp (disch := omega) only [wr_off, cpx_offr]) (by simp (disch := omega) only [wr_off, cpx_offr]) hC.k
  · exact CE_c (by intros; simp (disch := omega) only [wr_off, cpx_offr, nw_row]) (by intros; simp (disch := omega) only [wr_off, cpx_offr, nw_row]) (by simp (disch := omega) only [wr_off, cpx_offr]) (by simp (disch := omega) only [wr_off, cpx_offr]) (by simp (disch := omega) only [wr_off, cpx_offr]) (by simp (disch := omega) only [wr_off, cpx_offr]) (by simp (disch := omega) only [wr_off, cpx_offr]) (by simp (disch := omega) only [wr_off, cpx_offr]) (by simp (disch := omega) only [wr_off, cpx_offr]) (by simp (disch := omega) only [wr_off, cpx_offr]) (by simp (disch := omega) only [wr_off, cpx_offr]) (by simp (disch := omega) only [wr_off, cpx_offr]) (by simp (disch := omega) only [wr_off, cpx_offr]) hC.e
  · exact Cw_c (by intros; simp (disch := omega) only [wr_off, cpx_offr, nw_row]) (by intros; simp (disch := omega) only [wr_off, cpx_offr, nw_row]) (by simp (disch := omega) only [wr_off, cpx_offr]) (by simp (disch := omega) only [wr_off, cpx_offr]) hC.w
  · exact Cr_c (by intros; simp (disch := omega) only [wr_off, cpx_offr, nw_row]) (by simp (disch := omega) only [wr_off, cpx_offr]) (by simp (disch := omega) only [wr_off, cpx_offr]) hC.r
  · exact Cg_c (by intros; simp (disch := omega) only [wr_off, cpx_offr, nw_row]) (by intros; simp (disch := omega) only [wr_off, cpx_offr, nw_row]) (by simp (disch := omega) only [wr_off, cpx_offr]) (by simp (disch := omega) only [wr_off, cpx_offr]) hC.g
  · obtain ⟨⟨k1, k2, k3⟩, k4, k5, k6, k7, k8⟩ := hC.p
    refine ⟨⟨?_, ?_, ?_⟩, ?_, ?_, ?_, ?_, ?_⟩
    · simp (disch := omega) only [wr_k]; exact k1
    · simp (disch := omega) only [wr_k]; exact k2
    · simp only [wr_e]
    · simp (disch := omega) only [wr_k]; exact k4
    · simp (disch := omega) only [wr_off]; exact k5
    · simp (disch := omega) only [wr_off]; exact k6
    · simp (disch := omega) only [wr_off]; exact k7
    · intro i i0 i1
      simp (disch := omega) only [wr_k] at i1
      have hi := k6 i i0 (by omega)
      simp (disch := omega) only [PC, wr_off]
      exact k8 i i0 i1
  · exact Cd_c (by intros; simp (disch := omega) only [wr_a, wr_k, cpx_off]) (by intros; simp (disch := omega) only [wr_a, wr_k, cpx_off]) (by intros; simp (disch := omega) only [wr_a, wr_k, cpx_off]) hC.d
  · exact Cn_c (by intros; simp (disch := omega) only [wr_a, wr_k, cpx_off]) (by intros; simp (disch := omega) only [wr_a, wr_k, cpx_off]) (by intros; simp (disch := omega) only [wr_a, wr_k, cpx_off]) (by intros; simp (disch := omega) only [wr_off, cpx_offr, nw_row]) (Int.le_of_eq (by intros; simp (disch := omega) only [wr_a, wr_k, cpx_off])) (by simp (disch := omega) only [wr_off, cpx_offr]) (by simp (disch := omega) only [wr_off, cpx_offr]) (by simp (disch := omega) only [wr_off, cpx_offr]) hC.n
  · exact Cl_c (by intros; simp (disch := omega) only [wr_a, wr_k, cpx_off]) (by intros; simp (disch := omega) only [wr_a, wr_k, cpx_off]) (by intros; simp (disch := omega) only [wr_a, wr_k, cpx_off]) (Int.le_of_eq (by intros; simp (disch := omega) only [wr_a, wr_k, cpx_off])) (by intros; simp (disch := omega) only [wr_a, wr_k, cpx_off]) (by simp (disch := omega) only [wr_off, cpx_offr]) hC.l
  · exact Cx_c (by intros; simp (disch := omega) only [wr_a, wr_k, cpx_off]) (by intros; simp (disch := omega) only [wr_off, cpx_offr, nw_row]) (by intros; simp (disch := omega) only [wr_a, wr_k, cpx_off]) (by simp (disch := omega) only [wr_off, cpx_offr]) hC.x
set_option maxHeartbeats 4000000 in
theorem cr_delay {l v : Int} (hC : CR ρ n σ h) (h0 : 0 ≤ l) (h1 : l < 2) : CR ρ n (wr σ 108 l v) (wr h 7 l v) := by
  refine ⟨?_, ?_, ?_, ?_, ?_, ?_, ?_, ?_, ?_, ?_, ?_, ?_, ?_, ?_⟩
  · exact CO_c (by intros; simp (disch := omega) only [wr_off, cpx_offr, nw_row]) (by intros; simp (disch := omega) only [wr_off, cpx_offr, nw_row]) (by intros; simp (disch := omega) only [wr_off, cpx_offr, nw_row]) (by intros; simp (disch := omega) only [wr_a, wr_k, cpx_off]) hC.o
  · exact ct_wr hC.T (by unfold Fx; omega)
  · exact CB_c (by omega) (by intros; simp (disch := omega) only [wr_a, wr_k, cpx_off]) (by simp (disch := omega) only [wr_off, cpx_offr]) (by simp (disch := omega) only [wr_off, cpx_offr]) hC.b
  · exact Cc_c (by intros; simp (disch := omega) only [wr_off, cpx_offr, nw_row]) (by simp (disch := omega) only [wr_off, cpx_offr]) hC.c
  · exact Ck_c (by intros; simp (disch := omega) only [wr_off, cpx_offr, nw_row]) (by simp (disch := omega) only [wr_off, cpx_offr]) (by simp (disch := omega) only [wr_off, cpx_offr]) (by simp (disch := omega) only [wr_off, cpx_offr]) hC.k
  · exact CE_c (by intros; simp (disch := omega) only [wr_off, cpx_offr, nw_row]) (by intros; simp (disch := omega) only [wr_off, cpx_offr, nw_row]) (by simp (disch := omega) only [wr_off, cpx_offr]) (by simp (disch := omega) only [wr_off, cpx_offr]) (by simp (disch := omega) only [wr_off, cpx_offr]) (by simp (disch := omega) only [wr_off, cpx_offr]) (by simp (disch := omega) only [wr_off, cpx_offr]) (by simp (disch := omega) only [wr_off, cpx_offr]) (by simp (disch := omega) only [wr_off, cpx_offr]) (by simp (disch := omega) only [wr_off, cpx_offr]) (by simp (disch := omega) only [wr_off, cpx_offr]) (by simp (disch := omega) only [wr_off, cpx_offr]) (by simp (disch := omega) only [wr_off, cpx_offr]) hC.e
  · exact Cw_c (by intros; simp (disch := omega) only [wr_off, cpx_offr, nw_row]) (by intros; simp (disch := omega) only [wr_off, cpx_offr, nw_row]) (by simp (disch := omega) only [wr_off, cpx_offr]) (by simp (disch := omega) only [wr_off, cpx_offr]) hC.w
  · exact Cr_c (by intros; simp (disch := omega) only [wr_off, cpx_offr, nw_row]) (by simp (disch := omega) only [wr_off, cpx_offr]) (by simp (disch := omega) only [wr_off, cpx_offr]) hC.r
  · exact Cg_c (by intros; simp (disch := omega) only [wr_off, cpx_offr, nw_row]) (by intros; simp (disch := omega) only [wr_off, cpx_offr, nw_row]) (by simp (disch := omega) only [wr_off, cpx_offr]) (by simp (disch := omega) only [wr_off, cpx_offr]) hC.g
  · obtain ⟨⟨k1, k2, k3⟩, k4, k5, k6, k7, k8⟩ := hC.p
    refine ⟨⟨?_, ?_, ?_⟩, ?_, ?_, ?_, ?_, ?_⟩
    · simp (disch := omega) only [wr_a]; exact k1
    · simp (disch := omega) only [wr_a]; exact k2
    · simp (disch := omega) only [wr_a]; exact k3
    · simp (disch := omega) only [wr_a]; exact k4
    · intro x x0 x1
      have hx := k5 x x0 x1
      simp only [wr, true_and, and_true]
      (repeat' split) <;> omega
    · simp (disch := omega) only [wr_off]; exact k6
    · simp (disch := omega) only [wr_off]; exact k7
    · intro i i0 i1
      simp (disch := omega) only [wr_a] at i1
      have hi := k6 i i0 (by omega)
      simp (disch := omega) only [PC, wr_off]
      exact k8 i i0 i1
  · exact Cd_c (by intros; simp (disch := omega) only [wr_a, wr_k, cpx_off]) (by intros; simp (disch := omega) only [wr_a, wr_k, cpx_off]) (by intros; simp (disch := omega) only [wr_a, wr_k, cpx_off]) hC.d
  · exact Cn_c (by intros; simp (disch := omega) only [wr_a, wr_k, cpx_off]) (by intros; simp (disch := omega) only [wr_a, wr_k, cpx_off]) (by intros; simp (disch := omega) only [wr_a, wr_k, cpx_off]) (by intros; simp (disch := omega) only [wr_off, cpx_offr, nw_row]) (Int.le_of_eq (by intros; simp (disch := omega) only [wr_a, wr_k, cpx_off])) (by simp (disch := omega) only [wr_off, cpx_offr]) (by simp (disch := omega) only [wr_off, cpx_offr]) (by simp (disch := omega) only [wr_off, cpx_offr]) hC.n
  · exact Cl_c (by intros; simp (disch := omega) only [wr_a, wr_k, cpx_off]) (by intros; simp (disch := omega) only [wr_a, wr_k, cpx_off]) (by intros; simp (disch := omega) only [wr_a, wr_k, cpx_off]) (Int.le_of_eq (by intros; simp (disch := omega) only [wr_a, wr_k, cpx_off])) (by intros; simp (disch := omega) only [wr_a, wr_k, cpx_off]) (by simp (disch := omega) only [wr_off, cpx_offr]) hC.l
  · exact Cx_c (by intros; simp (disch := omega) only [wr_a, wr_k, cpx_off]) (by intros; simp (disch := omega) only [wr_off, cpx_offr, nw_row]) (by intros; simp (disch := omega) only [wr_a, wr_k, cpx_off]) (by simp (disch := omega) only [wr_off, cpx_offr]) hC.x
set_option maxHeartbeats 4000000 in
theorem cr_key {j k c l r : Int} (hC : CR ρ n σ h) (h0 : 0 ≤ j) (h1 : j < 2) (k0 : 0 ≤ k) (k1 : k < 4) (l0 : ¬ l = 0) : CR ρ n (F_keys (4 * j + k) c l r σ) (wr (wr (wr (wr h (38 + 7 * j + k) 0 1) (38 + 7 * j + k) 1 c) (38 + 7 * j + k) 2 l) (38 + 7 * j + k) 3 r) := by
  unfold F_keys
  refine ⟨?_, ?_, ?_, ?_, ?_, ?_, ?_, ?_, ?_, ?_, ?_, ?_, ?_, ?_⟩
  · exact CO_c (by intros; simp (disch := omega) only [wr_off, cpx_offr, nw_row]) (by intros; simp (disch := omega) only [wr_off, cpx_offr, nw_row]) (by intros; simp (disch := omega) only [wr_off, cpx_offr, nw_row]) (by intros; simp (disch := omega) only [wr_a, wr_k, cpx_off]) hC.o
  · exact ct_wr (ct_wr (ct_wr (ct_wr hC.T (by unfold Fx; omega)) (by unfold Fx; omega)) (by unfold Fx; omega)) (by unfold Fx; omega)
  · exact CB_c (by omega) (by intros; simp (disch := omega) only [wr_a, wr_k, cpx_off]) (by simp (disch := omega) only [wr_off, cpx_offr]) (by simp (disch := omega) only [wr_off, cpx_offr]) hC.b
  · exact Cc_c (by intros; simp (disch := omega) only [wr_off, cpx_offr, nw_row]) (by simp (disch := omega) only [wr_off, cpx_offr]) hC.c
  · intro x y x0 x1 y0 y1
    have hx := hC.k x y x0 x1 y0 y1
    by_cases hy : x = j ∧ y = k
    · obtain ⟨rfl, rfl⟩ := hy
      simp (disch := omega) only [wr_a, wr_k, wr_e]
      exact ⟨fun q => absurd q l0, fun _ => by simp⟩
    · simp (disch := omega) only [wr_a, wr_k]
      exact hx
  · exact CE_c (by intros; simp (disch := omega) only [wr_off, cpx_offr, nw_row]) (by intros; simp (disch := omega) only [wr_off, cpx_offr, nw_row]) (by simp (disch := omega) only [wr_off, cpx_offr]) (by simp (disch := omega) only [wr_off, cpx_offr]) (by simp (disch := omega) only [wr_off, cpx_offr]) (by simp (disch := omega) only [wr_off, cpx_offr]) (by simp (disch := omega) only [wr_off, cpx_offr]) (by simp (disch := omega) only [wr_off, cpx_offr]) (by simp (disch := omega) only [wr_off, cpx_offr]) (by simp (disch := omega) only [wr_off, cpx_offr]) (by simp (disch := omega) only [wr_off, cpx_offr]) (by simp (disch := omega) only [wr_off, cpx_offr]) (by simp (disch := omega) only [wr_off, cpx_offr]) hC.e
  · exact Cw_c (by intros; simp (disch := omega) only [wr_off, cpx_offr, nw_row]) (by intros; simp (disch := omega) only [wr_off, cpx_offr, nw_row]) (by simp (disch := omega) only [wr_off, cpx_offr]) (by simp (disch := omega) only [wr_off, cpx_offr]) hC.w
  · exact Cr_c (by intros; simp (disch := omega) only [wr_off, cpx_offr, nw_row]) (by simp (disch := omega) only [wr_off, cpx_offr]) (by simp (disch := omega) only [wr_off, cpx_offr]) hC.r
  · exact Cg_c (by intros; simp (disch := omega) only [wr_off, cpx_offr, nw_row]) (by intros; simp (disch := omega) only [wr_off, cpx_offr, nw_row]) (by simp (disch := omega) only [wr_off, cpx_offr]) (by simp (disch := omega) only [wr_off, cpx_offr]) hC.g
  · exact Cp_c (by intros; simp (disch := omega) only [wr_a, wr_k, cpx_off]) (by intros; simp (disch := omega) only [wr_a, wr_k, cpx_off]) (by intros; simp (disch := omega) only [wr_a, wr_k, cpx_off]) (by intros; simp (disch := omega) only [wr_off, cpx_offr, nw_row]) (by intros; simp (disch := omega) only [wr_off, cpx_offr, nw_row]) (by intros; simp (disch := omega) only [wr_off, cpx_offr, nw_row]) (by intros; simp (disch := omega) only [wr_a, wr_k, cpx_off]) (by intros; simp (disch := omega) only [wr_a, wr_k, cpx_off]) (by intros; simp (disch := omega) only [wr_a, wr_k, cpx_off]) (by simp (disch := omega) only [wr_off, cpx_offr]) (by simp (disch := omega) only [wr_off, cpx_offr]) hC.p
  · exact Cd_c (by intros; simp (disch := omega) only [wr_a, wr_k, cpx_off]) (by intros; simp (disch := omega) only [wr_a, wr_k, cpx_off]) (by intros; simp (disch := omega) only [wr_a, wr_k, cpx_off]) hC.d
  · exact Cn_c (by intros; simp (disch := omega) only [wr_a, wr_k, cpx_off]) (by intros; simp (disch := omega) only [wr_a, wr_k, cpx_off]) (by intros; simp (disch := omega) only [wr_a, wr_k, cpx_off]) (by intros; simp (disch := omega) only [wr_off, cpx_offr, nw_row]) (Int.le_of_eq (by intros; simp (disch := omega) only [wr_a, wr_k, cpx_off])) (by simp (disch := omega) only [wr_off, cpx_offr]) (by simp (disch := omega) only [wr_off, cpx_offr]) (by simp (disch := omega) only [wr_off, cpx_offr]) hC.n
  · exact Cl_c (by intros; simp (disch := omega) only [wr_a, wr_k, cpx_off]) (by intros; simp (disch := omega) only [wr_a, wr_k, cpx_off]) (by intros; simp (disch := omega) only [wr_a, wr_k, cpx_off]) (Int.le_of_eq (by intros; simp (disch := omega) only [wr_a, wr_k, cpx_off])) (by intros; simp (disch := omega) only [wr_a, wr_k, cpx_off]) (by simp (disch := omega) only [wr_off, cpx_offr]) hC.l
  · exact Cx_c (by intros; simp (disch := omega) only [wr_a, wr_k, cpx_off]) (by intros; simp (disch := omega) only [wr_off, cpx_offr, nw_row]) (by intros; simp (disch := omega) only [wr_a, wr_k, cpx_off]) (by simp (disch := omega) only [wr_off, cpx_offr]) hC.x
set_option maxHeartbeats 4000000 in
theorem cr_lock {j k : Int} (hC : CR ρ n σ h) (h0 : 0 ≤ j) (h1 : j < 2) (k0 : 0 ≤ k) (k1 : k < 4) : CR ρ n (wr σ 92 (4 * j + k) 0) (wr h (38 + 7 * j + k) 0 0) := by
  refine ⟨?_, ?_, ?_, ?_, ?_, ?_, ?_, ?_, ?_, ?_, ?_, ?_, ?_, ?_⟩
  · exact CO_c (by intros; simp (disch := omega) only [wr_off, cpx_offr, nw_row]) (by intros; simp (disch := omega) only [wr_off, cpx_offr, nw_row]) (by intros; simp (disch := omega) only [wr_off, cpx_offr, nw_row]) (by intros; simp (disch := omega) only [wr_a, wr_k, cpx_off]) hC.o
  · exact ct_wr hC.T (by unfold Fx; omega)
  · exact CB_c (by omega) (by intros; simp (disch := omega) only [wr_a, wr_k, cpx_off]) (by simp (disch := omega) only [wr_off, cpx_offr]) (by simp (disch := omega) only [wr_off, cpx_offr]) hC.b
  · exact Cc_c (by intros; simp (disch := omega) only [wr_off, cpx_offr, nw_row]) (by simp (disch := omega) only [wr_off, cpx_offr]) hC.c
  · intro x y x0 x1 y0 y1
    have hx := hC.k x y x0 x1 y0 y1
    by_cases hy : x = j ∧ y = k
    · obtain ⟨rfl, rfl⟩ := hy
      simp (disch := omega) only [wr_a, wr_k, wr_e]
      exact ⟨fun _ => trivial, fun q => absurd trivial q⟩
    · simp (disch := omega) only [wr_a, wr_k]
      exact hx
  · exact CE_c (by intros; simp (disch := omega) only [wr_off, cpx_offr, nw_row]) (by intros; simp (disch := omega) only [wr_off, cpx_offr, nw_row]) (by simp (disch := omega) only [wr_off, cpx_offr]) (by simp (disch := omega) only [wr_off, cpx_offr]) (by simp (disch := omega) only [wr_off, cpx_offr]) (by simp (disch := omega) only [wr_off, cpx_offr]) (by simp (disch := omega) only [wr_off, cpx_offr]) (by simp (disch := omega) only [wr_off, cpx_offr]) (by simp (disch := omega) only [wr_off, cpx_offr]) (by simp (disch := omega) only [wr_off, cpx_offr]) (by simp (disch := omega) only [wr_off, cpx_offr]) (by simp (disch := omega) only [wr_off, cpx_offr]) (by simp (disch := omega) only [wr_off, cpx_offr]) hC.e
  · exact Cw_c (by intros; simp (disch := omega) only [wr_off, cpx_offr, nw_row]) (by intros; simp (disch := omega) only [wr_off, cpx_offr, nw_row]) (by simp (disch := omega) only [wr_off, cpx_offr]) (by simp (disch := omega) only [wr_off, cpx_offr]) hC.w
  · exact Cr_c (by intros; simp (disch := omega) only [wr_off, cpx_offr, nw_row]) (by simp (disch := omega) only [wr_off, cpx_offr]) (by simp (disch := omega) only [wr_off, cpx_offr]) hC.r
  · exact Cg_c (by intros; simp (disch := omega) only [wr_off, cpx_offr, nw_row]) (by intros; simp (disch := omega) only [wr_off, cpx_offr, nw_row]) (by simp (disch := omega) only [wr_off, cpx_offr]) (by simp (disch := omega) only [wr_off, cpx_offr]) hC.g
  · exact Cp_c (by intros; simp (disch := omega) only [wr_a, wr_k, cpx_off]) (by intros; simp (disch := omega) only [wr_a, wr_k, cpx_off]) (by intros; simp (disch := omega) only [wr_a, wr_k, cpx_off]) (by intros; simp (disch := omega) only [wr_off, cpx_offr, nw_row]) (by intros; simp (disch := omega) only [wr_off, cpx_offr, nw_row]) (by intros; simp (disch := omega) only [wr_off, cpx_offr, nw_row]) (by intros; simp (disch := omega) only [wr_a, wr_k, cpx_off]) (by intros; simp (disch := omega) only [wr_a, wr_k, cpx_off]) (by intros; simp (disch := omega) only [wr_a, wr_k, cpx_off]) (by simp (disch := omega) only [wr_off, cpx_offr]) (by simp (disch := omega) only [wr_off, cpx_offr]) hC.p
  · exact Cd_c (by intros; simp (disch := omega) only [wr_a, wr_k, cpx_off]) (by intros; simp (disch := omega) only [wr_a, wr_k, cpx_off]) (by intros; simp (disch := omega) only [wr_a, wr_k, cpx_off]) hC.d
  · exact Cn_c (by intros; simp (disch := omega) only [wr_a, wr_k, cpx_off]) (by intros; simp (disch := omega) only [wr_a, wr_k, cpx_off]) (by intros; simp (disch := omega) only [wr_a, wr_k, cpx_off]) (by intros; simp (disch := omega) only [wr_off, cpx_offr, nw_row]) (Int.le_of_eq (by intros; simp (disch := omega) only [wr_a, wr_k, cpx_off])) (by simp (disch := omega) only [wr_off, cpx_offr]) (by simp (disch := omega) only [wr_off, cpx_offr]) (by simp (disch := omega) only [wr_off, cpx_offr]) hC.n
  · exact Cl_c (by intros; simp (disch := omega) only [wr_a, wr_k, cpx_off]) (by intros; simp (disch := omega) only [wr_a, wr_k, cpx_off]) (by intros; simp (disch := omega) only [wr_a, wr_k, cpx_off]) (Int.le_of_eq (by intros; simp (disch := omega) only [wr_a, wr_k, cpx_off])) (by intros; simp (disch := omega) only [wr_a, wr_k, cpx_off]) (by simp (disch := omega) only [wr_off, cpx_offr]) hC.l
  · exact Cx_c (by intros; simp (disch := omega) only [wr_a, wr_k, cpx_off]) (by intros; simp (disch := omega) only [wr_off, cpx_offr, nw_row]) (by intros; simp (disch := omega) only [wr_a, wr_k, cpx_off]) (by simp (disch := omega) only [wr_off, cpx_offr]) hC.x
set_option maxHeartbeats 4000000 in
theorem cr_len0 (hC : CR ρ n σ h) : CR ρ n (wr σ 89 31 0) (wr h 32 2 0) := by
  refine ⟨?_, ?_, ?_, ?_, ?_, ?_, ?_, ?_, ?_, ?_, ?_, ?_, ?_, ?_⟩
  · exact CO_c (by intros; simp (disch := omega) only [wr_off, cpx_offr, nw_row]) (by intros; simp (disch := omega) only [wr_off, cpx_offr, nw_row]) (by intros; simp (disch := omega) only [wr_off, cpx_offr, nw_row]) (by intros; simp (disch := omega) only [wr_a, wr_k, cpx_off]) hC.o
  · exact ct_wr hC.T (by unfold Fx; omega)
  · exact CB_c (by omega) (by intros; simp (disch := omega) only [wr_a, wr_k, cpx_off]) (by simp (disch := omega) only [wr_off, cpx_offr]) (by simp (disch := omega) only [wr_off, cpx_offr]) hC.b
  · exact Cc_c (by intros; simp (disch := omega) only [wr_off, cpx_offr, nw_row]) (by simp (disch := omega) only [wr_off, cpx_offr]) hC.c
  · exact Ck_c (by intros; simp (disch := omega) only [wr_off, cpx_offr, nw_row]) (by simp (disch := omega) only [wr_off, cpx_offr]) (by simp (disch := omega) only [wr_off, cpx_offr]) (by simp (disch := omega) only [wr_off, cpx_offr]) hC.k
  · exact CE_c (by intros; simp (disch := omega) only [wr_off, cpx_offr, nw_row]) (by intros; simp (disch := omega) only [wr_off, cpx_offr, nw_row]) (by simp (disch := omega) only [wr_off, cpx_offr]) (by simp (disch := omega) only [wr_off, cpx_offr]) (by simp (disch := omega) only [wr_off, cpx_offr]) (by simp (disch := omega) only [wr_off, cpx_offr]) (by simp (disch := omega) only [wr_off, cpx_offr]) (by simp (disch := omega) only [wr_off, cpx_offr]) (by simp (disch := omega) only [wr_off, cpx_offr]) (by simp (disch := omega) only [wr_off, cpx_offr]) (by simp (disch := omega) only [wr_off, cpx_offr]) (by simp (disch := omega) only [wr_off, cpx_offr]) (by simp (disch := omega) only [wr_off, cpx_offr]) hC.e
  · exact Cw_c (by intros; simp (disch := omega) only [wr_off, cpx_offr, nw_row]) (by intros; simp (disch := omega) only [wr_off, cpx_offr, nw_row]) (by simp (disch := omega) only [wr_off, cpx_offr]) (by simp (disch := omega) only [wr_off, cpx_offr]) hC.w
  · exact Cr_c (by intros; simp (disch := omega) only [wr_off, cpx_offr, nw_row]) (by simp (disch := omega) only [wr_off, cpx_offr]) (by simp (disch := omega) only [wr_off, cpx_offr]) hC.r
  · exact Cg_c (by intros; simp (disch := omega) only [wr_off, cpx_offr, nw_row]) (by intros; simp (disch := omega) only [wr_off, cpx_offr, nw_row]) (by simp (disch := omega) only [wr_off, cpx_offr]) (by simp (disch := omega) only [wr_off, cpx_offr]) hC.g
  · exact Cp_c (by intros; simp (disch := omega) only [wr_a, wr_k, cpx_off]) (by intros; simp (disch := omega) only [wr_a, wr_k, cpx_off]) (by intros; simp (disch := omega) only [wr_a, wr_k, cpx_off]) (by intros; simp (disch := omega) only [wr_off, cpx_offr, nw_row]) (by intros; simp (disch := omega) only [wr_off, cpx_offr, nw_row]) (by intros; simp (disch := omega) only [wr_off, cpx_offr, nw_row]) (by intros; simp (disch := omega) only [wr_a, wr_k, cpx_off]) (by intros; simp (disch := omega) only [wr_a, wr_k, cpx_off]) (by intros; simp (disch := omega) only [wr_a, wr_k, cpx_off]) (by simp (disch := omega) only [wr_off, cpx_offr]) (by simp (disch := omega) only [wr_off, cpx_offr]) hC.p
  · exact Cd_c (by intros; simp (disch := omega) only [wr_a, wr_k, cpx_off]) (by intros; simp (disch := omega) only [wr_a, wr_k, cpx_off]) (by intros; simp (disch := omega) only [wr_a, wr_k, cpx_off]) hC.d
  · exact Cn_c (by intros; simp (disch := omega) only [wr_a, wr_k, cpx_off]) (by intros; simp (disch := omega) only [wr_a, wr_k, cpx_off]) (by intros; simp (disch := omega) only [wr_a, wr_k, cpx_off]) (by intros; simp (disch := omega) only [wr_off, cpx_offr, nw_row]) (Int.le_of_eq (by intros; simp (disch := omega) only [wr_a, wr_k, cpx_off])) (by simp (disch := omega) only [wr_off, cpx_offr]) (by simp (disch := omega) only [wr_off, cpx_offr]) (by simp (disch := omega) only [wr_off, cpx_offr]) hC.n
  · exact Cl_c (by intros; simp (disch := omega) only [wr_a, wr_k, cpx_off]) (by intros; simp (disch := omega) only [wr_a, wr_k, cpx_off]) (by intros; simp (disch := omega) only [wr_a, wr_k, cpx_off]) (Int.le_of_eq (by intros; simp (disch := omega) only [wr_a, wr_k, cpx_off])) (by intros; simp (disch := omega) only [wr_a, wr_k, cpx_off]) (by simp (disch := omega) only [wr_off, cpx_offr]) hC.l
  · refine ⟨?_, fun i i0 i1 => ?_⟩
    · simp only [wr_e]
    · simp only [wr_e] at i1
      omega
set_option maxHeartbeats 4000000 in
theorem cr_letter {v : Int} (hC : CR ρ n σ h) (hX : 0 ≤ σ 89 31) : CR ρ n (wr (wr σ 114 (σ 89 31) v) 89 31 (σ 89 31 + 1)) (wr (wr h 33 (σ 89 31) v) 32 2 (σ 89 31 + 1)) := by
  refine ⟨?_, ?_, ?_, ?_, ?_, ?_, ?_, ?_, ?_, ?_, ?_, ?_, ?_, ?_⟩
  · exact CO_c (by intros; simp (disch := omega) only [wr_off, cpx_offr, nw_row]) (by intros; simp (disch := omega) only [wr_off, cpx_offr, nw_row]) (by intros; simp (disch := omega) only [wr_off, cpx_offr, nw_row]) (by intros; simp (disch := omega) only [wr_a, wr_k, cpx_off]) hC.o
  · exact ct_wr (ct_wr hC.T (by have := hX; unfold Fx; omega)) (by unfold Fx; omega)
  · exact CB_c (by omega) (by intros; simp (disch := omega) only [wr_a, wr_k, cpx_off]) (by simp (disch := omega) only [wr_off, cpx_offr]) (by simp (disch := omega) only [wr_off, cpx_offr]) hC.b
  · exact Cc_c (by intros; simp (disch := omega) only [wr_off, cpx_offr, nw_row]) (by simp (disch := omega) only [wr_off, cpx_offr]) hC.c
  · exact Ck_c (by intros; simp (disch := omega) only [wr_off, cpx_offr, nw_row]) (by simp (disch := omega) only [wr_off, cpx_offr]) (by simp (disch := omega) only [wr_off, cpx_offr]) (by simp (disch := omega) only [wr_off, cpx_offr]) hC.k
  · exact CE_c (by intros; simp (disch := omega) only [wr_off, cpx_offr, nw_row]) (by intros; simp (disch := omega) only [wr_off, cpx_offr, nw_row]) (by simp (disch := omega) only [wr_off, cpx_offr]) (by simp (disch := omega) only [wr_off, cpx_offr]) (by simp (disch := omega) only [wr_off, cpx_offr]) (by simp (disch := omega) only [wr_off, cpx_offr]) (by simp (disch := omega) only [wr_off, cpx_offr]) (by simp (disch := omega) only [wr_off, cpx_offr]) (by simp (disch := omega) only [wr_off, cpx_offr]) (by simp (disch := omega) only [wr_off, cpx_offr]) (by simp (disch := omega) only [wr_off, cpx_offr]) (by simp (disch := omega) only [wr_off, cpx_offr]) (by simp (disch := omega) only [wr_off, cpx_offr]) hC.e
  · exact Cw_c (by intros; simp (disch := omega) only [wr_off, cpx_offr, nw_row]) (by intros; simp (disch := omega) only [wr_off, cpx_offr, nw_row]) (by simp (disch := omega) only [wr_off, cpx_offr]) (by simp (disch := omega) only [wr_off, cpx_offr]) hC.w
  · exact Cr_c (by intros; simp (disch := omega) only [wr_off, cpx_offr, nw_row]) (by simp (disch := omega) only [wr_off, cpx_offr]) (by simp (disch := omega) only [wr_off, cpx_offr]) hC.r
  · exact Cg_c (by intros; simp (disch := omega) only [wr_off, cpx_offr, nw_row]) (by intros; simp (disch := omega) only [wr_off, cpx_offr, nw_row]) (by simp (disch := omega) only [wr_off, cpx_offr]) (by simp (disch := omega) only [wr_off, cpx_offr]) hC.g
  · exact Cp_c (by intros; simp (disch := omega) only [wr_a, wr_k, cpx_off]) (by intros; simp (disch := omega) only [wr_a, wr_k, cpx_off]) (by intros; simp (disch := omega) only [wr_a, wr_k, cpx_off]) (by intros; simp (disch := omega) only [wr_off, cpx_offr, nw_row]) (by intros; simp (disch := omega) only [wr_off, cpx_offr, nw_row]) (by intros; simp (disch := omega) only [wr_off, cpx_offr, nw_row]) (by intros; simp (disch := omega) only [wr_a, wr_k, cpx_off]) (by intros; simp (disch := omega) only [wr_a, wr_k, cpx_off]) (by intros; simp (disch := omega) only [wr_a, wr_k, cpx_off]) (by simp (disch := omega) only [wr_off, cpx_offr]) (by simp (disch := omega) only [wr_off, cpx_offr]) hC.p
  · exact Cd_c (by intros; simp (disch := omega) only [wr_a, wr_k, cpx_off]) (by intros; simp (disch := omega) only [wr_a, wr_k, cpx_off]) (by intros; simp (disch := omega) only [wr_a, wr_k, cpx_off]) hC.d
  · exact Cn_c (by intros; simp (disch := omega) only [wr_a, wr_k, cpx_off]) (by intros; simp (disch := omega) only [wr_a, wr_k, cpx_off]) (by intros; simp (disch := omega) only [wr_a, wr_k, cpx_off]) (by intros; simp (disch := omega) only [wr_off, cpx_offr, nw_row]) (Int.le_of_eq (by intros; simp (disch := omega) only [wr_a, wr_k, cpx_off])) (by simp (disch := omega) only [wr_off, cpx_offr]) (by simp (disch := omega) only [wr_off, cpx_offr]) (by simp (disch := omega) only [wr_off, cpx_offr]) hC.n
  · exact Cl_c (by intros; simp (disch := omega) only [wr_a, wr_k, cpx_off]) (by intros; simp (disch := omega) only [wr_a, wr_k, cpx_off]) (by intros; simp (disch := omega) only [wr_a, wr_k, cpx_off]) (Int.le_of_eq (by intros; simp (disch := omega) only [wr_a, wr_k, cpx_off])) (by intros; simp (disch := omega) only [wr_a, wr_k, cpx_off]) (by simp (disch := omega) only [wr_off, cpx_offr]) hC.l
  · obtain ⟨k1, k2⟩ := hC.x
    refine ⟨?_, fun i i0 i1 => ?_⟩
    · simp only [wr_e]
    · simp only [wr_e] at i1
      have := k2 i i0
      simp (disch := omega) only [wr_a]
      simp only [wr, true_and, and_true]
      (repeat' split) <;> omega
set_option maxHeartbeats 4000000 in
theorem cr_rcv {e c : Int} (hC : CR ρ n σ h) (h0 : 0 ≤ e) (h1 : e < 4) (z0 : 0 ≤ σ 99 e) (z1 : σ 99 e < 3) (hz : ∀ x, 0 ≤ x → x < 4 → 0 ≤ σ 99 x ∧ σ 99 x ≤ 3) : CR ρ (n + 1) (wr (wr σ 100 (3 * e + σ 99 e) c) 99 e (σ 99 e + 1)) (wr (wr h (51 + 10 * e) (σ 99 e) c) (49 + 10 * e) 10 (σ 99 e + 1)) := by
  refine ⟨?_, ?_, ?_, ?_, ?_, ?_, ?_, ?_, ?_, ?_, ?_, ?_, ?_, ?_⟩
  · exact CO_c (by intros; simp (disch := omega) only [wr_off, cpx_offr, nw_row]) (by intros; simp (disch := omega) only [wr_off, cpx_offr, nw_row]) (by intros; simp (disch := omega) only [wr_off, cpx_offr, nw_row]) (by intros; simp (disch := omega) only [wr_a, wr_k, cpx_off]) hC.o
  · exact ct_wr (ct_wr hC.T (by unfold Fx; omega)) (by unfold Fx; omega)
  · have hb := hC.b
    rcases (show e = 0 ∨ e = 1 ∨ e = 2 ∨ e = 3 by omega) with rfl | rfl | rfl | rfl <;> simp (disch := omega) only [CB, wr_a, wr_k, wr_e] <;> omega
  · exact Cc_c (by intros; simp (disch := omega) only [wr_off, cpx_offr, nw_row]) (by simp (disch := omega) only [wr_off, cpx_offr]) hC.c
  · exact Ck_c (by intros; simp (disch := omega) only [wr_off, cpx_offr, nw_row]) (by simp (disch := omega) only [wr_off, cpx_offr]) (by simp (disch := omega) only [wr_off, cpx_offr]) (by simp (disch := omega) only [wr_off, cpx_offr]) hC.k
  · intro x x0 x1
    have hx := hC.e x x0 x1
    simp only [wr, true_and, and_true]
    refine ⟨?_, ?_, ?_, ?_, ?_, ?_, ?_, ?_, ?_, ?_, ?_⟩ <;> (repeat' split) <;> omega
  · exact Cw_c (by intros; simp (disch := omega) only [wr_off, cpx_offr, nw_row]) (by intros; simp (disch := omega) only [wr_off, cpx_offr, nw_row]) (by simp (disch := omega) only [wr_off, cpx_offr]) (by simp (disch := omega) only [wr_off, cpx_offr]) hC.w
  · intro x i x0 x1 i0 i1
    have hx := hC.r x i x0 x1 i0
    have hz2 := hz x x0 x1
    by_cases hy : x = e
    · subst hy
      simp only [wr_e] at i1
      simp (disch := omega) only [wr_a]
      simp only [wr, true_and, and_true]
      (repeat' split) <;> omega
    · simp (disch := omega) only [wr_a, wr_k] at i1
      simp (disch := omega) only [wr_a, wr_k]
      exact hx i1
  · exact Cg_c (by intros; simp (disch := omega) only [wr_off, cpx_offr, nw_row]) (by intros; simp (disch := omega) only [wr_off, cpx_offr, nw_row]) (by simp (disch := omega) only [wr_off, cpx_offr]) (by simp (disch := omega) only [wr_off, cpx_offr]) hC.g
  · exact Cp_c (by intros; simp (disch := omega) only [wr_a, wr_k, cpx_off]) (by intros; simp (disch := omega) only [wr_a, wr_k, cpx_off]) (by intros; simp (disch := omega) only [wr_a, wr_k, cpx_off]) (by intros; simp (disch := omega) only [wr_off, cpx_offr, nw_row]) (by intros; simp (disch := omega) only [wr_off, cpx_offr, nw_row]) (by intros; simp (disch := omega) only [wr_off, cpx_offr, nw_row]) (by intros; simp (disch := omega) only [wr_a, wr_k, cpx_off]) (by intros; simp (disch := omega) only [wr_a, wr_k, cpx_off]) (by intros; simp (disch := omega) only [wr_a, wr_k, cpx_off]) (by simp (disch := omega) only [wr_off, cpx_offr]) (by simp (disch := omega) only [wr_off, cpx_offr]) hC.p
  · exact Cd_c (by intros; simp (disch := omega) only [wr_a, wr_k, cpx_off]) (by intros; simp (disch := omega) only [wr_a, wr_k, cpx_off]) (by intros; simp (disch := omega) only [wr_a, wr_k, cpx_off]) hC.d
  · exact Cn_c (by intros; simp (disch := omega) only [wr_a, wr_k, cpx_off]) (by intros; simp (disch := omega) only [wr_a, wr_k, cpx_off]) (by intros; simp (disch := omega) only [wr_a, wr_k, cpx_off]) (by intros; simp (disch := omega) only [wr_off, cpx_offr, nw_row]) (Int.le_of_eq (by intros; simp (disch := omega) only [wr_a, wr_k, cpx_off])) (by simp (disch := omega) only [wr_off, cpx_offr]) (by simp (disch := omega) only [wr_off, cpx_offr]) (by simp (disch := omega) only [wr_off, cpx_offr]) hC.n
  · exact Cl_c (by intros; simp (disch := omega) only [wr_a, wr_k, cpx_off]) (by intros; simp (disch := omega) only [wr_a, wr_k, cpx_off]) (by intros; simp (disch := omega) only [wr_a, wr_k, cpx_off]) (Int.le_of_eq (by intros; simp (disch := omega) only [wr_a, wr_k, cpx_off])) (by intros; simp (disch := omega) only [wr_a, wr_k, cpx_off]) (by simp (disch := omega) only [wr_off, cpx_offr]) hC.l
  · exact Cx_c (by intros; simp (disch := omega) only [wr_a, wr_k, cpx_off]) (by intros; simp (disch := omega) only [wr_off, cpx_offr, nw_row]) (by intros; simp (disch := omega) only [wr_a, wr_k, cpx_off]) (by simp (disch := omega) only [wr_off, cpx_offr]) hC.x
set_option maxHeartbeats 4000000 in
theorem cr_rcs {e : Int} (hC : CR ρ n σ h) (h0 : 0 ≤ e) (h1 : e < 4) (z0 : 1 ≤ σ 99 e) (hz : ∀ x, 0 ≤ x → x < 4 → 0 ≤ σ 99 x ∧ σ 99 x ≤ 3) : CR ρ (n - 1) (cpx (wr σ 99 e (σ 99 e - 1)) 100 (3 * e) 100 (3 * e + 1) (σ 99 e - 1)) (wr (cpx h (51 + 10 * e) 0 (51 + 10 * e) 1 (σ 99 e - 1)) (49 + 10 * e) 10 (σ 99 e - 1)) := by
  refine ⟨?_, ?_, ?_, ?_, ?_, ?_, ?_, ?_, ?_, ?_, ?_, ?_, ?_, ?_⟩
  · exact CO_c (by intros; simp (disch := omega) only [wr_off, cpx_offr, nw_row]) (by intros; simp (disch := omega) only [wr_off, cpx_offr, nw_row]) (by intros; simp (disch := omega) only [wr_off, cpx_offr, nw_row]) (by intros; simp (disch := omega) only [wr_a, wr_k, cpx_off]) hC.o
  · exact ct_wr (ct_cpx hC.T (by decide) (fun k k0 => by unfold Fx; omega)) (by unfold Fx; omega)
  · have hb := hC.b
    rcases (show e = 0 ∨ e = 1 ∨ e = 2 ∨ e = 3 by omega) with rfl | rfl | rfl | rfl <;> simp (disch := omega) only [CB, wr_a, wr_k, wr_e, cpx_off] <;> omega
  · exact Cc_c (by intros; simp (disch := omega) only [wr_off, cpx_offr, nw_row]) (by simp (disch := omega) only [wr_off, cpx_offr]) hC.c
  · exact Ck_c (by intros; simp (disch := omega) only [wr_off, cpx_offr, nw_row]) (by simp (disch := omega) only [wr_off, cpx_offr]) (by simp (disch := omega) only [wr_off, cpx_offr]) (by simp (disch := omega) only [wr_off, cpx_offr]) hC.k
  · intro x x0 x1
    have hx := hC.e x x0 x1
    simp (disch := omega) only [cpx_off]
    simp only [wr, true_and, and_true]
    simp (disch := omega) only [cpx_off]
    refine ⟨?_, ?_, ?_, ?_, ?_, ?_, ?_, ?_, ?_, ?_, ?_⟩ <;> (repeat' split) <;> omega
  · exact Cw_c (by intros; simp (disch := omega) only [wr_off, cpx_offr, nw_row]) (by intros; simp (disch := omega) only [wr_off, cpx_offr, nw_row]) (by simp (disch := omega) only [wr_off, cpx_offr]) (by simp (disch := omega) only [wr_off, cpx_offr]) hC.w
  · intro x i x0 x1 i0 i1
    have hx := hC.r x i x0 x1 i0
    have hz2 := hz x x0 x1
    by_cases hy : x = e
    · subst hy
      simp (disch := omega) only [cpx_off, wr_e] at i1
      have hx2 := hC.r x (i + 1) x0 x1 (by omega) (by omega)
      simp (disch := omega) only [wr_a]
      rw [cpx_in (by omega) (by omega), cpx_in (by omega) (by omega), wr_a (by decide), show i - 0 + 1 = i + 1 by omega, show 3 * x + i - 3 * x + (3 * x + 1) = 3 * x + (i + 1) by omega]
      exact hx2
    · simp (disch := omega) only [cpx_off, wr_k] at i1
      have hze := hz e h0 h1
      simp (disch := omega) only [wr_a, cpx_off]
      rw [cpx_out (by omega), wr_a (by decide)]
      exact hx i1
  · exact Cg_c (by intros; simp (disch := omega) only [wr_off, cpx_offr, nw_row]) (by intros; simp (disch := omega) only [wr_off, cpx_offr, nw_row]) (by simp (disch := omega) only [wr_off, cpx_offr]) (by simp (disch := omega) only [wr_off, cpx_offr]) hC.g
  · exact Cp_c (by intros; simp (disch := omega) only [wr_a, wr_k, cpx_off]) (by intros; simp (disch := omega) only [wr_a, wr_k, cpx_off]) (by intros; simp (disch := omega) only [wr_a, wr_k, cpx_off]) (by intros; simp (disch := omega) only [wr_off, cpx_offr, nw_row]) (by intros; simp (disch := omega) only [wr_off, cpx_offr, nw_row]) (by intros; simp (disch := omega) only [wr_off, cpx_offr, nw_row]) (by intros; simp (disch := omega) only [wr_a, wr_k, cpx_off]) (by intros; simp (disch := omega) only [wr_a, wr_k, cpx_off]) (by intros; simp (disch := omega) only [wr_a, wr_k, cpx_off]) (by simp (disch := omega) only [wr_off, cpx_offr]) (by simp (disch := omega) only [wr_off, cpx_offr]) hC.p
  · exact Cd_c (by intros; simp (disch := omega) only [wr_a, wr_k, cpx_off]) (by intros; simp (disch := omega) only [wr_a, wr_k, cpx_off]) (by intros; simp (disch := omega) only [wr_a, wr_k, cpx_off]) hC.d
  · exact Cn_c (by intros; simp (disch := omega) only [wr_a, wr_k, cpx_off]) (by intros; simp (disch := omega) only [wr_a, wr_k, cpx_off]) (by intros; simp (disch := omega) only [wr_a, wr_k, cpx_off]) (by intros; simp (disch := omega) only [wr_off, cpx_offr, nw_row]) (Int.le_of_eq (by intros; simp (disch := omega) only [wr_a, wr_k, cpx_off])) (by simp (disch := omega) only [wr_off, cpx_offr]) (by simp (disch := omega) only [wr_off, cpx_offr]) (by simp (disch := omega) only [wr_off, cpx_offr]) hC.n
  · exact Cl_c (by intros; simp (disch := omega) only [wr_a, wr_k, cpx_off]) (by intros; simp (disch := omega) only [wr_a, wr_k, cpx_off]) (by intros; simp (disch := omega) only [wr_a, wr_k, cpx_off]) (Int.le_of_eq (by intros; simp (disch := omega) only [wr_a, wr_k, cpx_off])) (by intros; simp (disch := omega) only [wr_a, wr_k, cpx_off]) (by simp (disch := omega) only [wr_off, cpx_offr]) hC.l
  · exact Cx_c (by intros; simp (disch := omega) only [wr_a, wr_k, cpx_off]) (by intros; simp (disch := omega) only [wr_off, cpx_offr, nw_row]) (by intros; simp (disch := omega) only [wr_a, wr_k, cpx_off]) (by simp (disch := omega) only [wr_off, cpx_offr]) hC.x
set_option maxHeartbeats 4000000 in
theorem cr_rc0 {e : Int} (hC : CR ρ (n + σ 99 e) σ h) (h0 : 0 ≤ e) (h1 : e < 4) : CR ρ n (wr σ 99 e 0) (wr h (49 + 10 * e) 10 0) := by
  refine ⟨?_, ?_, ?_, ?_, ?_, ?_, ?_, ?_, ?_, ?_, ?_, ?_, ?_, ?_⟩
  · exact CO_c (by intros; simp (disch := omega) only [wr_off, cpx_offr, nw_row]) (by intros; simp (disch := omega) only [wr_off, cpx_offr, nw_row]) (by intros; simp (disch := omega) only [wr_off, cpx_offr, nw_row]) (by intros; simp (disch := omega) only [wr_a, wr_k, cpx_off]) hC.o
  · exact ct_wr hC.T (by unfold Fx; omega)
  · have hb := hC.b
    rcases (show e = 0 ∨ e = 1 ∨ e = 2 ∨ e = 3 by omega) with rfl | rfl | rfl | rfl <;> simp (disch := omega) only [CB, wr_a, wr_k, wr_e] <;> omega
  · exact Cc_c (by intros; simp (disch := omega) only [wr_off, cpx_offr, nw_row]) (by simp (disch := omega) only [wr_off, cpx_offr]) hC.c
  · exact Ck_c (by intros; simp (disch := omega) only [wr_off, cpx_offr, nw_row]) (by simp (disch := omega) only [wr_off, cpx_offr]) (by simp (disch := omega) only [wr_off, cpx_offr]) (by simp (disch := omega) only [wr_off, cpx_offr]) hC.k
  · intro x x0 x1
    have hx := hC.e x x0 x1
    simp only [wr, true_and, and_true]
    refine ⟨?_, ?_, ?_, ?_, ?_, ?_, ?_, ?_, ?_, ?_, ?_⟩ <;> (repeat' split) <;> omega
  · exact Cw_c (by intros; simp (disch := omega) only [wr_off, cpx_offr, nw_row]) (by intros; simp (disch := omega) only [wr_off, cpx_offr, nw_row]) (by simp (disch := omega) only [wr_off, cpx_offr]) (by simp (disch := omega) only [wr_off, cpx_offr]) hC.w
  · intro x i x0 x1 i0 i1
    have hx := hC.r x i x0 x1 i0
    by_cases hy : x = e
    · subst hy
      simp only [wr_e] at i1
      omega
    · simp (disch := omega) only [wr_k] at i1
      simp (disch := omega) only [wr_a]
      exact hx i1
  · exact Cg_c (by intros; simp (disch := omega) only [wr_off, cpx_offr, nw_row]) (by intros; simp (disch := omega) only [wr_off, cpx_offr, nw_row]) (by simp (disch := omega) only [wr_off, cpx_offr]) (by simp (disch := omega) only [wr_off, cpx_offr]) hC.g
  · exact Cp_c (by intros; simp (disch := omega) only [wr_a, wr_k, cpx_off]) (by intros; simp (disch := omega) only [wr_a, wr_k, cpx_off]) (by intros; simp (disch := omega) only [wr_a, wr_k, cpx_off]) (by intros; simp (disch := omega) only [wr_off, cpx_offr, nw_row]) (by intros; simp (disch := omega) only [wr_off, cpx_offr, nw_row]) (by intros; simp (disch := omega) only [wr_off, cpx_offr, nw_row]) (by intros; simp (disch := omega) only [wr_a, wr_k, cpx_off]) (by intros; simp (disch := omega) only [wr_a, wr_k, cpx_off]) (by intros; simp (disch := omega) only [wr_a, wr_k, cpx_off]) (by simp (disch := omega) only [wr_off, cpx_offr]) (by simp (disch := omega) only [wr_off, cpx_offr]) hC.p
  · exact Cd_c (by intros; simp (disch := omega) only [wr_a, wr_k, cpx_off]) (by intros; simp (disch := omega) only [wr_a, wr_k, cpx_off]) (by intros; simp (disch := omega) only [wr_a, wr_k, cpx_off]) hC.d
  · exact Cn_c (by intros; simp (disch := omega) only [wr_a, wr_k, cpx_off]) (by intros; simp (disch := omega) only [wr_a, wr_k, cpx_off]) (by intros; simp (disch := omega) only [wr_a, wr_k, cpx_off]) (by intros; simp (disch := omega) only [wr_off, cpx_offr, nw_row]) (Int.le_of_eq (by intros; simp (disch := omega) only [wr_a, wr_k, cpx_off])) (by simp (disch := omega) only [wr_off, cpx_offr]) (by simp (disch := omega) only [wr_off, cpx_offr]) (by simp (disch := omega) only [wr_off, cpx_offr]) hC.n
  · exact Cl_c (by intros; simp (disch := omega) only [wr_a, wr_k, cpx_off]) (by intros; simp (disch := omega) only [wr_a, wr_k, cpx_off]) (by intros; simp (disch := omega) only [wr_a, wr_k, cpx_off]) (Int.le_of_eq (by intros; simp (disch := omega) only [wr_a, wr_k, cpx_off])) (by intros; simp (disch := omega) only [wr_a, wr_k, cpx_off]) (by simp (disch := omega) only [wr_off, cpx_offr]) hC.l
  · exact Cx_c (by intros; simp (disch := omega) only [wr_a, wr_k, cpx_off]) (by intros; simp (disch := omega) only [wr_off, cpx_offr, nw_row]) (by intros; simp (disch := omega) only [wr_a, wr_k, cpx_off]) (by simp (disch := omega) only [wr_off, cpx_offr]) hC.x
set_option maxHeartbeats 4000000 in
theorem cr_shf {e : Int} (hC : CR ρ n σ h) (h0 : 0 ≤ e) (h1 : e < 4) (o1 : 1 ≤ σ 96 e) : CR ρ (n - 1) (cpx (wr σ 96 e (σ 96 e - 1)) 97 (28 * e) 97 (28 * e + 7) (7 * (σ 96 e - 1))) (wr (wr (cpx h (50 + 10 * e) 0 (50 + 10 * e) 1 (σ 96 e - 1)) (49 + 10 * e) 8 (σ 96 e - 1)) (50 + 10 * e) (σ 96 e - 1) (h (50 + 10 * e) 0)) := by
  refine ⟨?_, ?_, ?_, ?_, ?_, ?_, ?_, ?_, ?_, ?_, ?_, ?_, ?_, ?_⟩
  · exact CO_c (by intros; simp (disch := omega) only [wr_off, cpx_offr, nw_row]) (by intros; simp (disch := omega) only [wr_off, cpx_offr, nw_row]) (by intros; simp (disch := omega) only [wr_off, cpx_offr, nw_row]) (by intros; simp (disch := omega) only [wr_a, wr_k, cpx_off]) hC.o
  · exact ct_wr (ct_wr (ct_cpx hC.T (by decide) (fun k k0 => by unfold Fx; omega)) (by unfold Fx; omega)) (by unfold Fx; omega)
  · have hb := hC.b
    rcases (show e = 0 ∨ e = 1 ∨ e = 2 ∨ e = 3 by omega) with rfl | rfl | rfl | rfl <;> simp (disch := omega) only [CB, wr_a, wr_k, wr_e, cpx_off] <;> omega
  · exact Cc_c (by intros; simp (disch := omega) only [wr_off, cpx_offr, nw_row]) (by simp (disch := omega) only [wr_off, cpx_offr]) hC.c
  · exact Ck_c (by intros; simp (disch := omega) only [wr_off, cpx_offr, nw_row]) (by simp (disch := omega) only [wr_off, cpx_offr]) (by simp (disch := omega) only [wr_off, cpx_offr]) (by simp (disch := omega) only [wr_off, cpx_offr]) hC.k
  · intro x x0 x1
    have hx := hC.e x x0 x1
    simp (disch := omega) only [wr_a, cpx_off]
    simp only [wr, true_and, and_true]
    simp (disch := omega) only [cpx_off]
    refine ⟨?_, ?_, ?_, ?_, ?_, ?_, ?_, ?_, ?_, ?_, ?_⟩ <;> (repeat' split) <;> omega
  · intro x x0 x1
    obtain ⟨k1, k2, k3, k4⟩ := hC.w x x0 x1
    by_cases hy : x = e
    · subst hy
      have row : ∀ i, 0 ≤ i → i < 4 → wr (wr (cpx h (50 + 10 * x) 0 (50 + 10 * x) 1 (σ 96 x - 1)) (49 + 10 * x) 8 (σ 96 x - 1)) (50 + 10 * x) (σ 96 x - 1) (h (50 + 10 * x) 0) (50 + 10 * x) i = if i < σ 96 x - 1 then h (50 + 10 * x) (i + 1) else if i = σ 96 x - 1 then h (50 + 10 * x) 0 else h (50 + 10 * x) i := by
        intro i i0 i1
        by_cases a1 : i = σ 96 x - 1
        · rw [a1, wr_e, if_neg (by omega), if_pos rfl]
        · rw [wr_k a1, wr_a (by omega)]
          by_cases a2 : i < σ 96 x - 1
          · rw [if_pos a2, cpx_in (by omega) (by omega), show i - 0 + 1 = i + 1 by omega]
          · rw [if_neg a2, if_neg a1, cpx_out (by omega)]
      have sy : ∀ p q, 0 ≤ p → p < 4 → 0 ≤ q → q < 4 → p ≠ q → ¬ h (50 + 10 * x) p = h (50 + 10 * x) q := fun p q p0 p1 q0 q1 ne => by
        rcases (show p < q ∨ q < p by omega) with z | z
        · exact k3 p q p0 z q1
        · exact fun w => k3 q p q0 z p1 w.symm
      refine ⟨?_, fun i i0 i1 => ?_, fun i j i0 i1 j1 => ?_, fun i k i0 i1 k0 k9 => ?_⟩
      · simp (disch := omega) only [cpx_off, wr_e]
        refine ⟨by omega, by omega, ?_⟩
        have hs := pc_sh (e := x) (σ := σ) (τ := cpx (wr σ 96 x (σ 96 x - 1)) 97 (28 * x) 97 (28 * x + 7) (7 * (σ 96 x - 1))) (σ 96 x - 1).toNat (fun i i0 i1 => by rw [cpx_in (by omega) (by omega), wr_a (by decide), show 28 * x + 7 * i + 1 - 28 * x + (28 * x + 7) = 28 * x + 7 * (i + 1) + 1 by omega])
        rw [show (σ 96 x - 1).toNat + 1 = (σ 96 x).toNat by omega] at hs
        omega
      · rw [row i i0 i1]
        (repeat' split) <;> exact k2 _ (by omega) (by omega)
      · rw [row i i0 (by omega), row j (by omega) j1]
        (repeat' split) <;> first | (exfalso; omega) | exact sy _ _ (by omega) (by omega) (by omega) (by omega) (by omega)
      · simp (disch := omega) only [cpx_off, wr_e] at i1
        rw [row i i0 (by omega), if_pos (by omega)]
        have hb := k2 (i + 1) (by omega) (by omega)
        rw [wr_a (by omega), wr_a (by omega), cpx_off (by omega), k4 (i + 1) k (by omega) (by omega) k0 k9, cpx_in (by omega) (by omega), wr_a (by decide), show 28 * x + 7 * i + k - 28 * x + (28 * x + 7) = 28 * x + 7 * (i + 1) + k by omega]
    · refine ⟨?_, ?_, ?_, fun i k i0 i1 k0 k9 => ?_⟩
      · have hwe := (hC.w e h0 h1).1
        simp (disch := omega) only [cpx_off, wr_k]
        rw [pc_e (σ := σ) _ (fun i i0 i1 => by rw [cpx_out (by omega), wr_a (by decide)])]
        exact k1
      · simp (disch := omega) only [wr_off, cpx_offr]
        exact k2
      · simp (disch := omega) only [wr_off, cpx_offr]
        exact k3
      · simp (disch := omega) only [cpx_off, wr_k] at i1
        have hb := k2 i i0 (by omega)
        have hwe := (hC.w e h0 h1).1
        simp (disch := omega) only [wr_off, cpx_offr]
        rw [cpx_out (by omega), wr_a (by decide)]
        exact k4 i k i0 i1 k0 k9
  · exact Cr_c (by intros; simp (disch := omega) only [wr_off, cpx_offr, nw_row]) (by simp (disch := omega) only [wr_off, cpx_offr]) (by simp (disch := omega) only [wr_off, cpx_offr]) hC.r
  · exact Cg_c (by intros; simp (disch := omega) only [wr_off, cpx_offr, nw_row]) (by intros; simp (disch := omega) only [wr_off, cpx_offr, nw_row]) (by simp (disch := omega) only [wr_off, cpx_offr]) (by simp (disch := omega) only [wr_off, cpx_offr]) hC.g
  · exact Cp_c (by intros; simp (disch := omega) only [wr_a, wr_k, cpx_off]) (by intros; simp (disch := omega) only [wr_a, wr_k, cpx_off]) (by intros; simp (disch := omega) only [wr_a, wr_k, cpx_off]) (by intros; simp (disch := omega) only [wr_off, cpx_offr, nw_row]) (by intros; simp (disch := omega) only [wr_off, cpx_offr, nw_row]) (by intros; simp (disch := omega) only [wr_off, cpx_offr, nw_row]) (by intros; simp (disch := omega) only [wr_a, wr_k, cpx_off]) (by intros; simp (disch := omega) only [wr_a, wr_k, cpx_off]) (by intros; simp (disch := omega) only [wr_a, wr_k, cpx_off]) (by simp (disch := omega) only [wr_off, cpx_offr]) (by simp (disch := omega) only [wr_off, cpx_offr]) hC.p
  · exact Cd_c (by intros; simp (disch := omega) only [wr_a, wr_k, cpx_off]) (by intros; simp (disch := omega) only [wr_a, wr_k, cpx_off]) (by intros; simp (disch := omega) only [wr_a, wr_k, cpx_off]) hC.d
  · exact Cn_c (by intros; simp (disch := omega) only [wr_a, wr_k, cpx_off]) (by intros; simp (disch := omega) only [wr_a, wr_k, cpx_off]) (by intros; simp (disch := omega) only [wr_a, wr_k, cpx_off]) (by intros; simp (disch := omega) only [wr_off, cpx_offr, nw_row]) (Int.le_of_eq (by intros; simp (disch := omega) only [wr_a, wr_k, cpx_off])) (by simp (disch := omega) only [wr_off, cpx_offr]) (by simp (disch := omega) only [wr_off, cpx_offr]) (by simp (disch := omega) only [wr_off, cpx_offr]) hC.n
  · exact Cl_c (by intros; simp (disch := omega) only [wr_a, wr_k, cpx_off]) (by intros; simp (disch := omega) only [wr_a, wr_k, cpx_off]) (by intros; simp (disch := omega) only [wr_a, wr_k, cpx_off]) (Int.le_of_eq (by intros; simp (disch := omega) only [wr_a, wr_k, cpx_off])) (by intros; simp (disch := omega) only [wr_a, wr_k, cpx_off]) (by simp (disch := omega) only [wr_off, cpx_offr]) hC.l
  · exact Cx_c (by intros; simp (disch := omega) only [wr_a, wr_k, cpx_off]) (by intros; simp (disch := omega) only [wr_off, cpx_offr, nw_row]) (by intros; simp (disch := omega) only [wr_a, wr_k, cpx_off]) (by simp (disch := omega) only [wr_off, cpx_offr]) hC.x
end CS
