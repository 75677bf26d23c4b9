/-! the class: all anew; a clause is done -/
def kz (h : Hp) (a0 n : Int) : Hp := fun a y => if (a0 ≤ a ∧ a < a0 + n) ∧ y = 0 then 0 else h a y
theorem kz_0 {h : Hp} {a0 : Int} : kz h a0 0 = h := by
  funext a y
  unfold kz
  rw [if_neg (by omega)]
theorem kz_s {h : Hp} {a0 i : Int} (h0 : 0 ≤ i) : wr (kz h a0 i) (a0 + i) 0 0 = kz h a0 (i + 1) := by
  funext a y
  unfold wr kz
  (repeat' split) <;> first | rfl | omega
theorem kz_row {h : Hp} {a0 n a : Int} (ha : a < a0 ∨ a0 + n ≤ a) : kz h a0 n a = h a := by
  funext y
  unfold kz
  rw [if_neg (by omega)]
theorem kz_k {h : Hp} {a0 n a y : Int} (hy : y ≠ 0) : kz h a0 n a y = h a y := by
  unfold kz
  rw [if_neg (by omega)]
theorem kz_in {h : Hp} {a0 n a : Int} (h1 : a0 ≤ a) (h2 : a < a0 + n) : kz h a0 n a 0 = 0 := by
  unfold kz
  rw [if_pos ⟨⟨h1, h2⟩, rfl⟩]
theorem fl6_offr {σ : Hp} {a dst n c : Int} {f : Int → Int} (h : c ≠ a) : fl6 σ a dst n f c = σ c := funext fun _ => fl6_off h
def F_ho (j v : Int) (σ : Hp) : Hp := wr (wr (wr (fl6 (fl6 σ 90 (12 * j) 12 (fun _ => 0)) 92 (4 * j) 4 (fun _ => 0)) 111 j 0) 112 j 0) 89 28 v
theorem ct_kz {h : Hp} {a0 n : Int} (hT : CT h) (hF : ∀ a, a0 ≤ a → a < a0 + n → ¬ Fx a 0) : CT (kz h a0 n) := CT_of hT (fun b j _ _ hb => by
  unfold kz
  split
  · rename_i hc
    rw [hc.2] at hb
    exact absurd hb (hF b hc.1.1 hc.1.2)
  · rfl)
theorem ct_fl6 {h : Hp} {a d n : Int} {f : Int → Int} (hT : CT h) (h0 : 0 ≤ d) (hF : ∀ k, 0 ≤ k → ¬ Fx a k) : CT (fl6 h a d n f) := CT_of hT (fun b j _ _ hb => by
  unfold fl6
  split
  · rename_i hc
    rw [hc.1] at hb
    exact absurd hb (hF j (by omega))
  · rfl)
section KD
variable {G : GG} {b : Nat × Nat} {Q : Option VV → Hp → Prop} {ρ σ h g : Hp} {n : Int}
set_option maxHeartbeats 4000000 in
theorem cr_host {j v : Int} (hC : CR ρ n σ h) (h0 : 0 ≤ j) (h1 : j < 2) (hv : v = h (35 + 7 * (1 - j)) 5) : CR ρ n (F_ho j v σ) (wr (wr (wr (wr (kz (fl6 h (36 + 7 * j) 0 12 (fun _ => 0)) (38 + 7 * j) 4) (35 + 7 * j) 2 0) (35 + 7 * j) 3 0) (35 + 7 * j) 4 0) (35 + 7 * j) 5 0) := by
  unfold F_ho
  refine ⟨?_, ?_, ?_, ?_, ?_, ?_, ?_, ?_, ?_, ?_, ?_, ?_, ?_, ?_⟩
  · exact CO_c (by intros; simp (disch := omega) only [wr_off, kz_row, fl6_offr]) (by intros; simp (disch := omega) only [wr_off, kz_row, fl6_offr]) (by intros; simp (disch := omega) only [wr_off, kz_row, fl6_offr]) (by intros; simp (disch := omega) only [wr_a, wr_k, kz_row, kz_k, fl6_off]) hC.o
  · exact ct_wr (ct_wr (ct_wr (ct_wr (ct_kz (ct_fl6 hC.T (by decide) (fun k k0 => by unfold Fx; omega)) (fun a a0 a1 => by unfold Fx; omega)) (by unfold Fx; omega)) (by unfold Fx; omega)) (by unfold Fx; omega)) (by unfold Fx; omega)
  · exact CB_c (by omega) (by intros; simp (disch := omega) only [wr_a, wr_k, kz_row, kz_k, fl6_off]) (by simp (disch := omega) only [wr_off, fl6_offr]) (by simp (disch := omega) only [wr_off, fl6_offr]) hC.b
  · intro x y x0 x1 y0 y1
    have hx := hC.c x y x0 x1 y0 y1
    by_cases hy : x = j
    · subst hy
      simp (disch := omega) only [wr_a, kz_row, fl6_off]
      rw [fl6_in (by omega) (by omega), fl6_in (by omega) (by omega)]
    · simp (disch := omega) only [wr_a, kz_row, fl6_off]
      rw [fl6_out (by omega)]
      exact hx
  · intro x y x0 x1 y0 y1
    have hx := hC.k x y x0 x1 y0 y1
    by_cases hy : x = j
    · subst hy
      have e1 : wr (wr (wr (fl6 (fl6 σ 90 (12 * x) 12 (fun _ => 0)) 92 (4 * x) 4 (fun _ => 0)) 111 x 0) 112 x 0) 89 28 v 92 (4 * x + y) = 0 := by
        simp (disch := omega) only [wr_a]
        rw [fl6_in (by omega) (by omega)]
      refine ⟨fun _ => ?_, fun q => absurd e1 q⟩
      simp (disch := omega) only [wr_a]
      exact kz_in (by omega) (by omega)
    · simp (disch := omega) only [wr_a, wr_off, kz_row, fl6_offr]
      rw [fl6_out (by omega), fl6_offr (by decide)]
      exact hx
  · exact CE_c (by intros; simp (disch := omega) only [wr_off, kz_row, fl6_offr]) (by intros; simp (disch := omega) only [wr_off, kz_row, fl6_offr]) (by simp (disch := omega) only [wr_off, fl6_offr]) (by simp (disch := omega) only [wr_off, fl6_offr]) (by simp (disch := omega) only [wr_off, fl6_offr]) (by simp (disch := omega) only [wr_off, fl6_offr]) (by simp (disch := omega) only [wr_off, fl6_offr]) (by simp (disch := omega) only [wr_off, fl6_offr]) (by simp (disch := omega) only [wr_off, fl6_offr]) (by simp (disch := omega) only [wr_off, fl6_offr]) (by simp (disch := omega) only [wr_off, fl6_offr]) (by simp (disch := omega) only [wr_off, fl6_offr]) (by simp (disch := omega) only [wr_off, fl6_offr]) hC.e
  · exact Cw_c (by intros; simp (disch := omega) only [wr_off, kz_row, fl6_offr]) (by intros; simp (disch := omega) only [wr_off, kz_row, fl6_offr]) (by simp (disch := omega) only [wr_off, fl6_offr]) (by simp (disch := omega) only [wr_off, fl6_offr]) hC.w
  · exact Cr_c (by intros; simp (disch := omega) only [wr_off, kz_row, fl6_offr]) (by simp (disch := omega) only [wr_off, fl6_offr]) (by simp (disch := omega) only [wr_off, fl6_offr]) hC.r
  · exact Cg_c (by intros; simp (disch := omega) only [wr_off, kz_row, fl6_offr]) (by intros; simp (disch := omega) only [wr_off, kz_row, fl6_offr]) (by simp (disch := omega) only [wr_off, fl6_offr]) (by simp (disch := omega) only [wr_off, fl6_offr]) hC.g
  · exact Cp_c (by intros; simp (disch := omega) only [wr_a, wr_k, kz_row, kz_k, fl6_off]) (by intros; simp (disch := omega) only [wr_a, wr_k, kz_row, kz_k, fl6_off]) (by intros; simp (disch := omega) only [wr_a, wr_k, kz_row, kz_k, fl6_off]) (by intros; simp (disch := omega) only [wr_off, kz_row, fl6_offr]) (by intros; simp (disch := omega) only [wr_off, kz_row, fl6_offr]) (by intros; simp (disch := omega) only [wr_off, kz_row, fl6_offr]) (by intros; simp (disch := omega) only [wr_a, wr_k, kz_row, kz_k, fl6_off]) (by intros; simp (disch := omega) only [wr_a, wr_k, kz_row, kz_k, fl6_off]) (by intros; simp (disch := omega) only [wr_a, wr_k, kz_row, kz_k, fl6_off]) (by simp (disch := omega) only [wr_off, fl6_offr]) (by simp (disch := omega) only [wr_off, fl6_offr]) hC.p
  · obtain ⟨d1, d2, d3⟩ := hC.d
    rcases (show j = 0 ∨ j = 1 by omega) with rfl | rfl
    · have hv : v = h 42 5 := hv
      show 0 ≤ wr (wr (wr (wr (kz (fl6 h 36 0 12 (fun _ => 0)) 38 4) 35 2 0) 35 3 0) 35 4 0) 35 5 0 35 5 ∧ 0 ≤ wr (wr (wr (wr (kz (fl6 h 36 0 12 (fun _ => 0)) 38 4) 35 2 0) 35 3 0) 35 4 0) 35 5 0 42 5 ∧ wr (wr (wr (wr (kz (fl6 h 36 0 12 (fun _ => 0)) 38 4) 35 2 0) 35 3 0) 35 4 0) 35 5 0 35 5 + wr (wr (wr (wr (kz (fl6 h 36 0 12 (fun _ => 0)) 38 4) 35 2 0) 35 3 0) 35 4 0) 35 5 0 42 5 = _
      simp (disch := omega) only [wr_a, wr_e, kz_row, fl6_off]
      omega
    · have hv : v = h 35 5 := hv
      show 0 ≤ wr (wr (wr (wr (kz (fl6 h 43 0 12 (fun _ => 0)) 45 4) 42 2 0) 42 3 0) 42 4 0) 42 5 0 35 5 ∧ 0 ≤ wr (wr (wr (wr (kz (fl6 h 43 0 12 (fun _ => 0)) 45 4) 42 2 0) 42 3 0) 42 4 0) 42 5 0 42 5 ∧ wr (wr (wr (wr (kz (fl6 h 43 0 12 (fun _ => 0)) 45 4) 42 2 0) 42 3 0) 42 4 0) 42 5 0 35 5 + wr (wr (wr (wr (kz (fl6 h 43 0 12 (fun _ => 0)) 45 4) 42 2 0) 42 3 0) 42 4 0) 42 5 0 42 5 = _
      simp (disch := omega) only [wr_a, wr_e, kz_row, fl6_off]
      omega
  · intro x x0 x1
    by_cases hy : x = j
    · subst hy
      have e1 : wr (wr (wr (fl6 (fl6 σ 90 (12 * x) 12 (fun _ => 0)) 92 (4 * x) 4 (fun _ => 0)) 111 x 0) 112 x 0) 89 28 v 111 x = 0 := by simp (disch := omega) only [wr_a, wr_e]
      have e2 : wr (wr (wr (fl6 (fl6 σ 90 (12 * x) 12 (fun _ => 0)) 92 (4 * x) 4 (fun _ => 0)) 111 x 0) 112 x 0) 89 28 v 112 x = 0 := by simp (disch := omega) only [wr_a, wr_e]
      rw [e1, e2]
      refine ⟨by simp (disch := omega) only [wr_k, wr_e]; decide, fun _ => 0, ?_⟩
      rw [Ch, e1, e2]
      refine ⟨fun i i0 i1 => by omega, fun i i' i0 i1 i2 => by omega, ?_, ?_⟩
      · simp (disch := omega) only [wr_k, wr_e, if_true]
      · simp (disch := omega) only [wr_k, wr_e, if_true]
    · obtain ⟨u1, B, u2, u3, u4, u5⟩ := hC.n x x0 x1
      have e1 : wr (wr (wr (fl6 (fl6 σ 90 (12 * j) 12 (fun _ => 0)) 92 (4 * j) 4 (fun _ => 0)) 111 j 0) 112 j 0) 89 28 v 111 x = σ 111 x := by simp (disch := omega) only [wr_a, wr_k, fl6_off]
      have e2 : wr (wr (wr (fl6 (fl6 σ 90 (12 * j) 12 (fun _ => 0)) 92 (4 * j) 4 (fun _ => 0)) 111 j 0) 112 j 0) 89 28 v 112 x = σ 112 x := by simp (disch := omega) only [wr_a, wr_k, fl6_off]
      have e3 : wr (wr (wr (fl6 (fl6 σ 90 (12 * j) 12 (fun _ => 0)) 92 (4 * j) 4 (fun _ => 0)) 111 j 0) 112 j 0) 89 28 v 110 = σ 110 := by simp (disch := omega) only [wr_off, fl6_offr]
      have r35 : ∀ a, a = 35 + 7 * x ∨ 118 ≤ a → wr (wr (wr (wr (kz (fl6 h (36 + 7 * j) 0 12 (fun _ => 0)) (38 + 7 * j) 4) (35 + 7 * j) 2 0) (35 + 7 * j) 3 0) (35 + 7 * j) 4 0) (35 + 7 * j) 5 0 a = h a := fun a ha => by simp (disch := omega) only [wr_off, kz_row, fl6_offr]
      have r0 : wr (wr (wr (wr (kz (fl6 h (36 + 7 * j) 0 12 (fun _ => 0)) (38 + 7 * j) 4) (35 + 7 * j) 2 0) (35 + 7 * j) 3 0) (35 + 7 * j) 4 0) (35 + 7 * j) 5 0 0 = h 0 := by simp (disch := omega) only [wr_off, kz_row, fl6_offr]
      rw [e1, e2, r35 _ (Or.inl rfl)]
      refine ⟨u1, B, ?_⟩
      rw [Ch, e1, e2, e3, r35 _ (Or.inl rfl), r0]
      refine ⟨fun i i0 i1 => ?_, u3, u4, u5⟩
      have z := u2 i i0 i1
      rw [r35 _ (Or.inr z.1.1)]
      exact z
  · exact Cl_c (by intros; simp (disch := omega) only [wr_a, wr_k, kz_row, kz_k, fl6_off]) (by intros; simp (disch := omega) only [wr_a, wr_k, kz_row, kz_k, fl6_off]) (by intros; simp (disch := omega) only [wr_a, wr_k, kz_row, kz_k, fl6_off]) (Int.le_of_eq (by simp (disch := omega) only [wr_a, wr_k, kz_row, fl6_off])) (by intros; simp (disch := omega) only [wr_a, wr_k, kz_row, kz_k, fl6_off]) (by simp (disch := omega) only [wr_off, fl6_offr]) hC.l
  · exact Cx_c (by intros; simp (disch := omega) only [wr_a, wr_k, kz_row, kz_k, fl6_off]) (by intros; simp (disch := omega) only [wr_off, kz_row, fl6_offr]) (by intros; simp (disch := omega) only [wr_a, wr_k, kz_row, kz_k, fl6_off]) (by simp (disch := omega) only [wr_off, fl6_offr]) hC.x
set_option maxHeartbeats 4000000 in
theorem cr_used0 (hC : CR ρ n σ h) : CR ρ n (wr σ 89 21 0) (wr h 4 3 0) := by
  refine ⟨?_, ?_, ?_, ?_, ?_, ?_, ?_, ?_, ?_, ?_, ?_, ?_, ?_, ?_⟩
  · exact CO_c (by intros; simp (disch := omega) only [wr_off, cpx_offr, nw_row]) (by intros; simp (disch := omega) only [wr_off, cpx_offr, nw_row]) (by intros; simp (disch := omega) only [wr_off, cpx_offr, nw_row]) (by intros; simp (disch := omega) only [wr_a, wr_k, cpx_off]) hC.o
  · exact ct_wr hC.T (by unfold Fx; omega)
  · exact CB_c (by omega) (by intros; simp (disch := omega) only [wr_a, wr_k, cpx_off]) (by simp (disch := omega) only [wr_off, cpx_offr]) (by simp (disch := omega) only [wr_off, cpx_offr]) hC.b
  · exact Cc_c (by intros; simp (disch := omega) only [wr_off, cpx_offr, nw_row]) (by simp (disch := omega) only [wr_off, cpx_offr]) hC.c
  · exact Ck_c (by intros; simp (disch := omega) only [wr_off, cpx_offr, nw_row]) (by simp (disch := omega) only [wr_off, cpx_offr]) (by simp (disch := omega) only [wr_off, cpx_offr]) (by simp (disch := omega) only [wr_off, cpx_offr]) hC.k
  · exact CE_c (by intros; simp (disch := omega) only [wr_off, cpx_offr, nw_row]) (by intros; simp (disch := omega) only [wr_off, cpx_offr, nw_row]) (by simp (disch := omega) only [wr_off, cpx_offr]) (by simp (disch := omega) only [wr_off, cpx_offr]) (by simp (disch := omega) only [wr_off, cpx_offr]) (by simp (disch := omega) only [wr_off, cpx_offr]) (by simp (disch := omega) only [wr_off, cpx_offr]) (by simp (disch := omega) only [wr_off, cpx_offr]) (by simp (disch := omega) only [wr_off, cpx_offr]) (by simp (disch := omega) only [wr_off, cpx_offr]) (by simp (disch := omega) only [wr_off, cpx_offr]) (by simp (disch := omega) only [wr_off, cpx_offr]) (by simp (disch := omega) only [wr_off, cpx_offr]) hC.e
  · exact Cw_c (by intros; simp (disch := omega) only [wr_off, cpx_offr, nw_row]) (by intros; simp (disch := omega) only [wr_off, cpx_offr, nw_row]) (by simp (disch := omega) only [wr_off, cpx_offr]) (by simp (disch := omega) only [wr_off, cpx_offr]) hC.w
  · exact Cr_c (by intros; simp (disch := omega) only [wr_off, cpx_offr, nw_row]) (by simp (disch := omega) only [wr_off, cpx_offr]) (by simp (disch := omega) only [wr_off, cpx_offr]) hC.r
  · exact Cg_c (by intros; simp (disch := omega) only [wr_off, cpx_offr, nw_row]) (by intros; simp (disch := omega) only [wr_off, cpx_offr, nw_row]) (by simp (disch := omega) only [wr_off, cpx_offr]) (by simp (disch := omega) only [wr_off, cpx_offr]) hC.g
  · obtain ⟨⟨k1, k2, k3⟩, k4, k5, k6, k7, k8⟩ := hC.p
    refine ⟨⟨?_, ?_, ?_⟩, ?_, ?_, ?_, ?_, ?_⟩
    · simp only [wr_e]
    · simp (disch := omega) only [wr_k]; exact k2
    · simp (disch := omega) only [wr_k]; exact k3
    · simp only [wr_e]; omega
    · simp (disch := omega) only [wr_off]; exact k5
    · simp (disch := omega) only [wr_off]; exact k6
    · simp (disch := omega) only [wr_off]; exact k7
    · intro i i0 i1
      simp only [wr_e] at i1
      omega
  · exact Cd_c (by intros; simp (disch := omega) only [wr_a, wr_k, cpx_off]) (by intros; simp (disch := omega) only [wr_a, wr_k, cpx_off]) (by intros; simp (disch := omega) only [wr_a, wr_k, cpx_off]) hC.d
  · exact Cn_c (by intros; simp (disch := omega) only [wr_a, wr_k, cpx_off]) (by intros; simp (disch := omega) only [wr_a, wr_k, cpx_off]) (by intros; simp (disch := omega) only [wr_a, wr_k, cpx_off]) (by intros; simp (disch := omega) only [wr_off, cpx_offr, nw_row]) (Int.le_of_eq (by intros; simp (disch := omega) only [wr_a, wr_k, cpx_off])) (by simp (disch := omega) only [wr_off, cpx_offr]) (by simp (disch := omega) only [wr_off, cpx_offr]) (by simp (disch := omega) only [wr_off, cpx_offr]) hC.n
  · exact Cl_c (by intros; simp (disch := omega) only [wr_a, wr_k, cpx_off]) (by intros; simp (disch := omega) only [wr_a, wr_k, cpx_off]) (by intros; simp (disch := omega) only [wr_a, wr_k, cpx_off]) (Int.le_of_eq (by intros; simp (disch := omega) only [wr_a, wr_k, cpx_off])) (by intros; simp (disch := omega) only [wr_a, wr_k, cpx_off]) (by simp (disch := omega) only [wr_off, cpx_offr]) hC.l
  · exact Cx_c (by intros; simp (disch := omega) only [wr_a, wr_k, cpx_off]) (by intros; simp (disch := omega) only [wr_off, cpx_offr, nw_row]) (by intros; simp (disch := omega) only [wr_a, wr_k, cpx_off]) (by simp (disch := omega) only [wr_off, cpx_offr]) hC.x
set_option maxHeartbeats 4000000 in
theorem cr_last0 (hC : CR ρ n σ h) : CR ρ n (wr σ 89 27 0) (wr h 1 4 0) := by
  refine ⟨?_, ?_, ?_, ?_, ?_, ?_, ?_, ?_, ?_, ?_, ?_, ?_, ?_, ?_⟩
  · exact CO_c (by intros; simp (disch := omega) only [wr_off, cpx_offr, nw_row]) (by intros; simp (disch := omega) only [wr_off, cpx_offr, nw_row]) (by intros; simp (disch := omega) only [wr_off, cpx_offr, nw_row]) (by intros; simp (disch := omega) only [wr_a, wr_k, cpx_off]) hC.o
  · exact ct_wr hC.T (by unfold Fx; omega)
  · exact CB_c (by omega) (by intros; simp (disch := omega) only [wr_a, wr_k, cpx_off]) (by simp (disch := omega) only [wr_off, cpx_offr]) (by simp (disch := omega) only [wr_off, cpx_offr]) hC.b
  · exact Cc_c (by intros; simp (disch := omega) only [wr_off, cpx_offr, nw_row]) (by simp (disch := omega) only [wr_off, cpx_offr]) hC.c
  · exact Ck_c (by intros; simp (disch := omega) only [wr_off, cpx_offr, nw_row]) (by simp (disch := omega) only [wr_off, cpx_offr]) (by simp (disch := omega) only [wr_off, cpx_offr]) (by simp (disch := omega) only [wr_off, cpx_offr]) hC.k
  · exact CE_c (by intros; simp (disch := omega) only [wr_off, cpx_offr, nw_row]) (by intros; simp (disch := omega) only [wr_off, cpx_offr, nw_row]) (by simp (disch := omega) only [wr_off, cpx_offr]) (by simp (disch := omega) only [wr_off, cpx_offr]) (by simp (disch := omega) only [wr_off, cpx_offr]) (by simp (disch := omega) only [wr_off, cpx_offr]) (by simp (disch := omega) only [wr_off, cpx_offr]) (by simp (disch := omega) only [wr_off, cpx_offr]) (by simp (disch := omega) only [wr_off, cpx_offr]) (by simp (disch := omega) only [wr_off, cpx_offr]) (by simp (disch := omega) only [wr_off, cpx_offr]) (by simp (disch := omega) only [wr_off, cpx_offr]) (by simp (disch := omega) only [wr_off, cpx_offr]) hC.e
  · exact Cw_c (by intros; simp (disch := omega) only [wr_off, cpx_offr, nw_row]) (by intros; simp (disch := omega) only [wr_off, cpx_offr, nw_row]) (by simp (disch := omega) only [wr_off, cpx_offr]) (by simp (disch := omega) only [wr_off, cpx_offr]) hC.w
  · exact Cr_c (by intros; simp (disch := omega) only [wr_off, cpx_offr, nw_row]) (by simp (disch := omega) only [wr_off, cpx_offr]) (by simp (disch := omega) only [wr_off, cpx_offr]) hC.r
  · exact Cg_c (by intros; simp (disch := omega) only [wr_off, cpx_offr, nw_row]) (by intros; simp (disch := omega) only [wr_off, cpx_offr, nw_row]) (by simp (disch := omega) only [wr_off, cpx_offr]) (by simp (disch := omega) only [wr_off, cpx_offr]) hC.g
  · exact Cp_c (by intros; simp (disch := omega) only [wr_a, wr_k, cpx_off]) (by intros; simp (disch := omega) only [wr_a, wr_k, cpx_off]) (by intros; simp (disch := omega) only [wr_a, wr_k, cpx_off]) (by intros; simp (disch := omega) only [wr_off, cpx_offr, nw_row]) (by intros; simp (disch := omega) only [wr_off, cpx_offr, nw_row]) (by intros; simp (disch := omega) only [wr_off, cpx_offr, nw_row]) (by intros; simp (disch := omega) only [wr_a, wr_k, cpx_off]) (by intros; simp (disch := omega) only [wr_a, wr_k, cpx_off]) (by intros; simp (disch := omega) only [wr_a, wr_k, cpx_off]) (by simp (disch := omega) only [wr_off, cpx_offr]) (by simp (disch := omega) only [wr_off, cpx_offr]) hC.p
  · exact Cd_c (by intros; simp (disch := omega) only [wr_a, wr_k, cpx_off]) (by intros; simp (disch := omega) only [wr_a, wr_k, cpx_off]) (by intros; simp (disch := omega) only [wr_a, wr_k, cpx_off]) hC.d
  · exact Cn_c (by intros; simp (disch := omega) only [wr_a, wr_k, cpx_off]) (by intros; simp (disch := omega) only [wr_a, wr_k, cpx_off]) (by intros; simp (disch := omega) only [wr_a, wr_k, cpx_off]) (by intros; simp (disch := omega) only [wr_off, cpx_offr, nw_row]) (Int.le_of_eq (by intros; simp (disch := omega) only [wr_a, wr_k, cpx_off])) (by simp (disch := omega) only [wr_off, cpx_offr]) (by simp (disch := omega) only [wr_off, cpx_offr]) (by simp (disch := omega) only [wr_off, cpx_offr]) hC.n
  · refine ⟨fun _ => ?_, fun q => ?_⟩
    · simp only [wr_e]
    · exact absurd wr_e q
  · exact Cx_c (by intros; simp (disch := omega) only [wr_a, wr_k, cpx_off]) (by intros; simp (disch := omega) only [wr_off, cpx_offr, nw_row]) (by intros; simp (disch := omega) only [wr_a, wr_k, cpx_off]) (by simp (disch := omega) only [wr_off, cpx_offr]) hC.x
set_option maxHeartbeats 4000000 in
theorem Lk_hkeys {j : Int} (hT : CT h) (h0 : 0 ≤ j) (h1 : j < 2) (hk : Q none (wr (wr (wr (wr (kz h (38 + 7 * j) 4) (35 + 7 * j) 2 0) (35 + 7 * j) 3 0) (35 + 7 * j) 4 0) (35 + 7 * j) 5 0)) : ∀ (m : Nat) (i : Int), 0 ≤ i → i + m = 4 → AW G mm_X2_reset b 23 [(0, vR (35 + 7 * j)), (1, vI i)] [] (kz h (38 + 7 * j) i) Q := by
  have CTH : ∀ i, i ≤ 4 → CT (kz h (38 + 7 * j) i) := fun i i4 => ct_kz hT (fun a a0 a1 => by unfold Fx; omega)
  intro m
  induction m with
  | zero =>
    intro i i0 hi
    have hi4 : i = 4 := by omega
    subst hi4
    have hT4 := CTH 4 (by decide)
    refine sg_X2_reset_23 ?_
    simp (disch := omega) only [hT4, true_and, forall_eq]
    exact ⟨fun _ => hk, fun q => absurd (by decide) q⟩
  | succ m ih =>
    intro i i0 hi
    have hT4 := CTH i (by omega)
    refine sg_X2_reset_23 ?_
    simp (disch := omega) only [hT4, true_and, forall_eq, kz_s, inI]
    exact ⟨fun q => by omega, fun _ => ⟨by omega, by omega, by omega, ih (i + 1) (by omega) (by omega)⟩⟩
set_option maxHeartbeats 4000000 in
theorem Lk_hcells {j : Int} (hT : CT h) (h0 : 0 ≤ j) (h1 : j < 2) (hk : AW G mm_X2_reset b 23 [(0, vR (35 + 7 * j)), (1, vI 0)] [] (fl6 h (36 + 7 * j) 0 12 (fun _ => 0)) Q) : ∀ (m : Nat) (i : Int), 0 ≤ i → i + m = 12 → AW G mm_X2_reset b 2 [(0, vR (35 + 7 * j)), (1, vI i)] [] (fl6 h (36 + 7 * j) 0 i (fun _ => 0)) Q := by
  have CTH : ∀ i, CT (fl6 h (36 + 7 * j) 0 i (fun _ => 0)) := fun i => ct_fl6 hT (by decide) (fun k k0 => by unfold Fx; omega)
  intro m
  induction m with
  | zero =>
    intro i i0 hi
    have hi4 : i = 12 := by omega
    subst hi4
    exact sg_X2_reset_2 ⟨fun _ => hk, fun q => absurd (by decide) q⟩
  | succ m ih =>
    intro i i0 hi
    have hT4 := CTH i
    have st : wr (fl6 h (36 + 7 * j) 0 i (fun _ => 0)) (36 + 7 * j) i 0 = fl6 h (36 + 7 * j) 0 (i + 1) (fun _ => 0) := by
      have := fl6_s (σ := h) (a := 36 + 7 * j) (dst := 0) (n := i) (x := 0) (f := fun _ => 0) i0 rfl
      rw [show 0 + i = i by omega] at this
      exact this
    refine sg_X2_reset_2 ?_
    simp (disch := omega) only [hT4, true_and, forall_eq, st, inI]
    exact ⟨fun q => by omega, fun _ => ⟨by omega, by omega, by omega, ih (i + 1) (by omega) (by omega)⟩⟩
theorem K_hreset {j : Int} (hC : CR ρ n σ h) (h0 : 0 ≤ j) (h1 : j < 2) (hk : ∀ g, CR ρ n (F_ho j (h (35 + 7 * (1 - j)) 5) σ) g → g (35 + 7 * j) 5 = 0 → Q none g) : Runs G mm_X2_reset [vR (35 + 7 * j)] h Q := by
  have L1 := Lk_hkeys (G := G) (b := (0, 0)) (Q := Q) (h := fl6 h (36 + 7 * j) 0 12 (fun _ => 0)) (ct_fl6 hC.T (by decide) (fun k k0 => by unfold Fx; omega)) h0 h1 (hk _ (cr_host hC h0 h1 rfl) wr_e) 4 0 (by decide) (by decide)
  rw [kz_0] at L1
  have L2 := Lk_hcells (G := G) (b := (0, 0)) (Q := Q) hC.T h0 h1 L1 12 0 (by decide) (by decide)
  rw [fl6_0] at L2
  exact rn_X2_reset L2
theorem ae_c {X Y : Hp} {e a : Int} (h : X a = Y a) : F_ae e X a = F_ae e Y a := by
  unfold F_ae F_anew
  funext j
  simp only [wr, h]
theorem aes_c {a : Int} : ∀ (k : Nat) (e : Int) (X Y : Hp), X a = Y a → F_aes k e X a = F_aes k e Y a
  | 0, _, _, _, h => h
  | k + 1, e, X, Y, h => aes_c k (e + 1) (F_ae e X) (F_ae e Y) (ae_c h)
theorem ae_off {X : Hp} {e a : Int} (h : a < 94 ∨ a = 97 ∨ a = 100 ∨ a = 105 ∨ 107 < a) : F_ae e X a = X a := by
  unfold F_ae
  rw [wr_off (by omega), wr_off (by omega), anew_off (by omega)]
theorem aes_off {a : Int} (h : a < 94 ∨ a = 97 ∨ a = 100 ∨ a = 105 ∨ 107 < a) : ∀ (k : Nat) (e : Int) (X : Hp), F_aes k e X a = X a
  | 0, _, _ => rfl
  | k + 1, e, X => (aes_off h k (e + 1) (F_ae e X)).trans (ae_off h)
def F_wi (σ : Hp) : Hp := wr (wr (wr (wr (wr σ 89 21 0) 89 29 0) 89 19 0) 108 0 1) 108 1 1
set_option maxHeartbeats 4000000 in
theorem all_eq {v : Int} {σ : Hp} : wr (F_wi (F_aes 4 0 (F_ho 1 0 (F_ho 0 v σ)))) 89 27 0 = F_all σ := by
  have az : ∀ (Z : Hp) a, a ≠ 89 → F_az Z a = Z a := fun Z a ha => by
    unfold F_az
    rw [wr_off ha, wr_off ha, wr_off ha, wr_off ha, wr_off ha]
  have al : ∀ (l : Int) (Z : Hp) a, a ≠ 108 → a ≠ 111 → a ≠ 112 → F_al l Z a = Z a := fun l Z a h1 h2 h3 => by
    unfold F_al
    rw [wr_off h3, wr_off h2, wr_off h1]
  have wi : ∀ (Z : Hp) a, a ≠ 89 → a ≠ 108 → F_wi Z a = Z a := fun Z a h1 h2 => by
    unfold F_wi
    rw [wr_off h2, wr_off h2, wr_off h1, wr_off h1, wr_off h1]
  have ho : ∀ (j v : Int) (Z : Hp) a, a ≠ 89 → a ≠ 90 → a ≠ 92 → a ≠ 111 → a ≠ 112 → F_ho j v Z a = Z a := fun j v Z a h1 h2 h3 h4 h5 => by
    unfold F_ho
    rw [wr_off h1, wr_off h5, wr_off h4, fl6_offr h3, fl6_offr h2]
  funext a
  by_cases a89 : a = 89
  · subst a89
    have e1 : F_ho 1 0 (F_ho 0 v σ) 89 = wr σ 89 28 0 89 := by
      unfold F_ho
      funext j
      simp (disch := omega) only [wr_v, wr_a, wr_off, fl6_offr]
      (repeat' split) <;> rfl
    have e2 : F_al 1 (F_al 0 (F_aes 4 0 (fl6 (fl6 σ 90 0 24 (fun _ => 0)) 92 0 8 (fun _ => 0)))) 89 = σ 89 := by
      rw [al _ _ _ (by decide) (by decide) (by decide), al _ _ _ (by decide) (by decide) (by decide), aes_off (by decide), fl6_offr (by decide), fl6_offr (by decide)]
    funext j
    unfold F_all F_az F_wi
    simp (disch := omega) only [wr_v, wr_a, wr_off, e2, aes_off, e1]
    (repeat' split) <;> first | rfl | omega
  · rw [wr_off a89]
    unfold F_all
    rw [az _ _ a89]
    by_cases a108 : a = 108
    · subst a108
      have e1 : F_aes 4 0 (F_ho 1 0 (F_ho 0 v σ)) 108 = σ 108 := by
        rw [aes_off (by decide), ho _ _ _ _ (by decide) (by decide) (by decide) (by decide) (by decide), ho _ _ _ _ (by decide) (by decide) (by decide) (by decide) (by decide)]
      have e2 : F_aes 4 0 (fl6 (fl6 σ 90 0 24 (fun _ => 0)) 92 0 8 (fun _ => 0)) 108 = σ 108 := by
        rw [aes_off (by decide), fl6_offr (by decide), fl6_offr (by decide)]
      unfold F_wi F_al
      funext j
      simp (disch := omega) only [wr_v, wr_a, e1, e2]
    · rw [wi _ _ a89 a108]
      by_cases a111 : a = 111
      · subst a111
        have e2 : F_aes 4 0 (fl6 (fl6 σ 90 0 24 (fun _ => 0)) 92 0 8 (fun _ => 0)) 111 = σ 111 := by
          rw [aes_off (by decide), fl6_offr (by decide), fl6_offr (by decide)]
        rw [aes_off (by decide)]
        unfold F_ho F_al
        funext j
        simp (disch := omega) only [wr_v, wr_a, fl6_off, e2]
      · by_cases a112 : a = 112
        · subst a112
          have e2 : F_aes 4 0 (fl6 (fl6 σ 90 0 24 (fun _ => 0)) 92 0 8 (fun _ => 0)) 112 = σ 112 := by
            rw [aes_off (by decide), fl6_offr (by decide), fl6_offr (by decide)]
          rw [aes_off (by decide)]
          unfold F_ho F_al
          funext j
          simp (disch := omega) only [wr_v, wr_a, fl6_off, e2]
        · rw [al _ _ _ a108 a111 a112, al _ _ _ a108 a111 a112]
          refine aes_c 4 0 _ _ ?_
          by_cases a90 : a = 90
          · subst a90
            unfold F_ho
            funext j
            simp (disch := omega) only [wr_a, fl6_off]
            unfold fl6
            simp (disch := omega) only [wr_a, true_and]
            (repeat' split) <;> first | rfl | omega
          · by_cases a92 : a = 92
            · subst a92
              unfold F_ho
              funext j
              simp (disch := omega) only [wr_a]
              unfold fl6
              simp (disch := omega) only [wr_a, true_and]
              (repeat' split) <;> first | rfl | omega
            · rw [ho _ _ _ _ a89 a90 a92 a111 a112, ho _ _ _ _ a89 a90 a92 a111 a112, fl6_offr a92, fl6_offr a90]
theorem K_setAim {e k o : Int} (hC : CR ρ n σ h) (h0 : 0 ≤ e) (h1 : e < 4) (hk : ∀ g, CR ρ n (wr (wr σ 106 e k) 107 e o) g → Q none g) : Runs G mm_X1_setAim [vR (49 + 10 * e), vI k, vI o] h Q := by
  have hT := hC.T
  refine rn_X1_setAim ?_
  simp (disch := omega) only [hT, true_and, forall_eq]
  exact hk _ (cr_sc (cr_sc hC h0 h1 (by omega)) h0 h1 (by omega))
set_option maxHeartbeats 4000000 in
theorem Lk_ends : ∀ (k : Nat) (e : Int) (σ h : Hp), CR ρ n σ h → (∀ x, 0 ≤ x → x < 4 → 0 ≤ σ 99 x ∧ σ 99 x ≤ 3) → 0 ≤ e → e + k = 4 → (∀ g, CR ρ n (F_aes k e σ) g → AW G mm_X9_resetAll b 24 [(0, vR 1), (1, vI 4)] [] g Q) → AW G mm_X9_resetAll b 24 [(0, vR 1), (1, vI e)] [] h Q := by
  intro k
  induction k with
  | zero =>
    intro e σ h hC hz h0 he hk
    rw [show e = 4 by omega]
    exact hk h hC
  | succ k ih =>
    intro e σ h hC hz h0 he hk
    have hT := hC.T
    refine sg_X9_resetAll_24 ?_
    simp (disch := omega) only [hT, true_and]
    refine ⟨fun q => by omega, fun _ => ⟨by omega, by omega, ?_⟩⟩
    refine rn_X1_reset ⟨sh2 hT h0 (by omega), ?_⟩
    refine K_restart hC hz h0 (by omega) (fun g hg => ?_)
    refine sg_X1_reset_5 ⟨sh2 hg.T h0 (by omega), ?_⟩
    refine K_setAim hg h0 (by omega) (fun g2 hg2 => ?_)
    refine sg_X1_reset_11 (sg_X9_resetAll_38 ⟨by unfold inI; omega, ?_⟩)
    refine ih (e + 1) (F_ae e σ) g2 hg2 (fun x x0 x1 => ?_) (by omega) (by omega) hk
    unfold F_ae
    rw [wr_a (by decide), wr_a (by decide), anew_v (a := 99) (by decide)]
    split
    · rw [if_neg (by decide)]
      omega
    · exact hz x x0 x1
set_option maxHeartbeats 4000000 in
theorem K_wreset (hC : CR ρ n σ h) (hk : ∀ g, CR ρ n (F_wi σ) g → Q none g) : Runs G mm_X7_reset [vR 4] h Q := by
  have h1 := cr_now (v := 0) (cr_lost (v := 0) (cr_used0 hC))
  have h2 := cr_delay (l := 0) (v := 1) h1 (by decide) (by decide)
  have h3 := cr_delay (l := 1) (v := 1) h2 (by decide) (by decide)
  have hT := hC.T
  have hT1 := h1.T
  have hT2 := h2.T
  have hT3 := h3.T
  refine rn_X7_reset ?_
  simp (disch := omega) only [hT, true_and, forall_eq]
  refine sg_X7_reset_17 ?_
  simp (disch := omega) only [hT1, true_and, forall_eq, inI]
  refine ⟨fun q => by omega, fun _ => ⟨by omega, by omega, by omega, ?_⟩⟩
  refine sg_X7_reset_17 ?_
  simp (disch := omega) only [hT2, true_and, forall_eq, inI]
  refine ⟨fun q => by omega, fun _ => ⟨by omega, by omega, by omega, ?_⟩⟩
  refine sg_X7_reset_17 ⟨fun _ => hk _ h3, fun q => by omega⟩
set_option maxHeartbeats 4000000 in
theorem K_resetAll {m m' : Int} (hC : CR ρ n σ h) (hI : IV σ m m') (hk : ∀ g, CR ρ n (F_all σ) g → Q none g) : Runs G mm_X9_resetAll [vR 1] h Q := by
  have hT := hC.T
  refine rn_X9_resetAll ?_
  refine sg_X9_resetAll_2 ?_
  simp (disch := omega) only [hT, true_and]
  refine ⟨fun q => by omega, fun _ => ⟨by decide, by decide, ?_⟩⟩
  refine K_hreset hC (by decide) (by decide) (fun g hg g5 => ?_)
  refine sg_X9_resetAll_16 ⟨by unfold inI; omega, ?_⟩
  have hTg := hg.T
  refine sg_X9_resetAll_2 ?_
  rw [show (0 : Int) + 1 = 1 from rfl]
  simp (disch := omega) only [hTg, true_and]
  refine ⟨fun q => by omega, fun _ => ⟨by decide, by decide, ?_⟩⟩
  refine K_hreset hg (by decide) (by decide) (fun g2 hg2 g52 => ?_)
  rw [show g (35 + 7 * (1 - 1)) 5 = 0 from g5] at hg2
  refine sg_X9_resetAll_16 ⟨by unfold inI; omega, ?_⟩
  refine sg_X9_resetAll_2 ⟨fun _ => ?_, fun q => by omega⟩
  have r99 : F_ho 1 0 (F_ho 0 (h (35 + 7 * (1 - 0)) 5) σ) 99 = σ 99 := by
    unfold F_ho
    simp (disch := omega) only [wr_off, fl6_offr]
  refine Lk_ends 4 0 _ g2 hg2 (by rw [r99]; exact hr_of hI) (by decide) (by decide) (fun g3 hg3 => ?_)
  have hT3 := hg3.T
  refine sg_X9_resetAll_24 ?_
  simp (disch := omega) only [hT3, true_and]
  refine ⟨fun _ => ?_, fun q => absurd (by decide) q⟩
  refine K_wreset hg3 (fun g4 hg4 => ?_)
  refine sg_X9_resetAll_51 ⟨hg4.T.1.1, ?_⟩
  simp only [forall_eq]
  have := cr_last0 hg4
  rw [all_eq] at this
  exact hk _ this
set_option maxHeartbeats 4000000 in
theorem K_does {w m m' : Int} (hC : CR ρ n σ h) (hI : IV σ m m') (w0 : 0 ≤ w) (w1 : w ≤ 5) (hN : Nb w σ) (h34 : ∀ k, 0 ≤ k → k < (if w = 1 then 5 else if w = 2 ∨ w = 4 then 3 else if w = 3 then 2 else if w = 5 then 1 else 0) → h 34 k = σ 115 k) (hk : ∀ g, CR ρ n (F_does w σ) g → Q none g) : Runs G mm_X9_doClause [vR 1, vI w, vR 34] h Q := by
  have hT := hC.T
  have s34 := hT.2.2.2.2.2.1.2.2.2.2.2.1
  have l34 := hT.2.2.2.2.2.1.2.2.2.2.2.2
  obtain ⟨N1, N2, N3, N4, N5⟩ := hN
  unfold F_does at hk
  refine rn_X9_doClause ?_
  rw [s34, l34]
  refine ⟨fun q => ⟨hT.1.1, ?_⟩, fun q => ?_, fun q => ?_, fun q => ?_, fun q => ?_, fun q => ⟨rfl, by decide, hT.1.1, ?_⟩, fun q => by omega⟩
  · rw [if_pos q] at hk
    exact K_resetAll hC hI (fun g hg => sg_X9_doClause_44 (hk g hg))
  · obtain ⟨x0, x1, x2, x3, x4⟩ := N1 q
    have n0 := h34 0 (by decide) (by rw [q]; decide)
    have n1 := h34 1 (by decide) (by rw [q]; decide)
    have n2 := h34 2 (by decide) (by rw [q]; decide)
    have n3 := h34 3 (by decide) (by rw [q]; decide)
    have n4 := h34 4 (by decide) (by rw [q]; decide)
    rw [n0, n1, n2, n3, n4]
    rw [if_neg (by omega), if_pos q] at hk
    simp (disch := omega) only [hT, true_and]
    exact ⟨by decide, by omega, by omega, by decide, by decide, by decide, by decide, K_setKey hC (by omega) (by omega) (by omega) (by omega) (by omega) (fun g hg => sg_X9_doClause_70 (hk g hg))⟩
  · obtain ⟨x0, x1, x2⟩ := N2 q
    have n0 := h34 0 (by decide) (by rw [q]; decide)
    have n1 := h34 1 (by decide) (by rw [q]; decide)
    have n2 := h34 2 (by decide) (by rw [q]; decide)
    rw [n0, n1, n2]
    rw [if_neg (by omega), if_neg (by omega), if_pos q] at hk
    simp (disch := omega) only [hT, true_and, forall_eq]
    exact ⟨by decide, by omega, by omega, by decide, by decide, by omega, by omega, hk _ (cr_cell hC (by omega) (by omega) (by omega) (by omega))⟩
  · obtain ⟨x0, x1⟩ := N3 q
    have n0 := h34 0 (by decide) (by rw [q]; decide)
    have n1 := h34 1 (by decide) (by rw [q]; decide)
    rw [n0, n1]
    rw [if_neg (by omega), if_neg (by omega), if_neg (by omega), if_pos q] at hk
    simp (disch := omega) only [hT, true_and, forall_eq]
    exact ⟨by decide, by decide, by omega, by omega, hk _ (cr_delay hC (by omega) (by omega))⟩
  · obtain ⟨x0, x1, x2⟩ := N4 q
    have n0 := h34 0 (by decide) (by rw [q]; decide)
    have n1 := h34 1 (by decide) (by rw [q]; decide)
    have n2 := h34 2 (by decide) (by rw [q]; decide)
    rw [n0, n1, n2]
    rw [if_neg (by omega), if_neg (by omega), if_neg (by omega), if_neg (by omega), if_pos q] at hk
    simp (disch := omega) only [hT, true_and]
    exact ⟨by decide, by omega, by omega, by decide, by decide, K_setAim hC (by omega) (by omega) (fun g hg => sg_X9_doClause_128 (hk g hg))⟩
  · have x0 := N5 q
    have n0 := h34 0 (by decide) (by rw [q]; decide)
    rw [n0]
    rw [if_neg (by omega), if_neg (by omega), if_neg (by omega), if_neg (by omega), if_neg (by omega)] at hk
    unfold F_joi at hk
    refine K_hasReady hC (by omega) (by omega) ?_
    by_cases hr : σ 94 (2 * σ 115 0) = 1 ∨ σ 94 (2 * σ 115 0 + 1) = 1
    · rw [if_pos hr] at hk
      rw [b2i_t hr]
      exact sg_X9_doClause_138 ⟨fun _ => hk h hC, fun z => absurd z (by decide)⟩
    · rw [if_neg hr] at hk
      rw [b2i_f hr]
      refine sg_X9_doClause_138 ⟨fun z => absurd rfl z, fun _ => ⟨s34, by rw [l34]; decide, hT.1.1, ?_⟩⟩
      rw [n0]
      exact K_joinLine hC hI (by omega) (by omega) (fun g hg => sg_X9_doClause_148 (hk g hg))
end KD
