/-! what holds of the reference's memory stays: rows, then sent and told -/
theorem Ic_c {σ τ : Hp} (h : τ 90 = σ 90) (k : Ic σ) : Ic τ := by unfold Ic; rw [h]; exact k
theorem Ik_c {σ τ : Hp} (h1 : τ 91 = σ 91) (h2 : τ 92 = σ 92) (h3 : τ 93 = σ 93) (k : Ik σ) : Ik τ := by unfold Ik; rw [h1, h2, h3]; exact k
theorem Ie_c {σ τ : Hp} {n : Int} (h1 : τ 94 = σ 94) (h2 : τ 95 = σ 95) (h3 : τ 96 = σ 96) (h4 : τ 98 = σ 98) (h5 : τ 99 = σ 99) (h6 : τ 101 = σ 101) (h7 : τ 102 = σ 102) (h8 : τ 103 = σ 103) (h9 : τ 104 = σ 104) (h10 : τ 106 = σ 106) (h11 : τ 107 = σ 107) (k : Ie σ n) : Ie τ n := by unfold Ie; rw [h1, h2, h3, h4, h5, h6, h7, h8, h9, h10, h11]; exact k
theorem Iw_c {σ τ : Hp} {n : Int} (h1 : τ 96 = σ 96) (h2 : τ 97 = σ 97) (k : Iw σ n) : Iw τ n := by unfold Iw; rw [h1, h2]; exact k
theorem Ip_c {σ τ : Hp} (h1 : τ 99 = σ 99) (h2 : τ 100 = σ 100) (k : Ip σ) : Ip τ := by unfold Ip; rw [h1, h2]; exact k
theorem Ig_c {σ τ : Hp} (h1 : τ 98 = σ 98) (h2 : τ 104 = σ 104) (h3 : τ 105 = σ 105) (k : Ig σ) : Ig τ := by unfold Ig; rw [h1, h2, h3]; exact k
theorem Id_c {σ τ : Hp} (h1 : τ 108 = σ 108) (k : Id σ) : Id τ := by unfold Id; rw [h1]; exact k
theorem It_c {σ τ : Hp} {n : Int} (h1 : τ 96 = σ 96) (h2 : τ 99 = σ 99) (h3 : τ 111 = σ 111) (h4 : τ 112 = σ 112) (k : It σ n) : It τ n := by unfold It; rw [h1, h2, h3, h4]; exact k
theorem Ix_c {σ τ : Hp} (h1 : τ 89 31 = σ 89 31) (h2 : τ 114 = σ 114) (k : Ix σ) : Ix τ := by unfold Ix; rw [h1, h2]; exact k
theorem Iq_c {σ τ : Hp} {n m : Int} (h1 : τ 89 19 = σ 89 19) (h2 : τ 89 21 = σ 89 21) (h3 : τ 89 22 = σ 89 22) (h4 : τ 89 28 = σ 89 28) (h5 : τ 89 29 = σ 89 29) (h6 : τ 109 = σ 109) (k : Iq σ n m) : Iq τ n m := by unfold Iq Pk; rw [h1, h2, h3, h4, h5, h6]; exact k
theorem IV.sn {σ : Hp} {n m : Int} (h : IV σ n m) : SN σ m := by
  have hn := h.n
  obtain ⟨q1, q2, q3, q4, q5, -, -⟩ := h.q
  have d0 := h.d 0 (by decide) (by decide)
  have d1 := h.d 1 (by decide) (by decide)
  exact ⟨q1, ⟨q2.1, by omega⟩, q3, q5, d0, d1, by omega⟩
theorem IV.up {σ : Hp} {n m n' m' : Int} (h : IV σ n m) (hn : n ≤ n') (hm : m ≤ m') (hn2 : n' ≤ 512) (hm2 : m' ≤ 100000) : IV σ n' m' := by
  obtain ⟨h1, ⟨h2, h3, h4, h5⟩, h6, h7, h8, h9, h10, h11, h12, h13, h14, h15⟩ := h
  refine ⟨h1, ⟨by omega, hn2, by omega, hm2⟩, h6, h7, fun e e0 e1 => ?_, fun e i e0 e1 i0 i1 => ?_, h10, h11, h12, ?_, fun j j0 j1 => ?_, h15⟩
  · have := h8 e e0 e1
    omega
  · have := h9 e i e0 e1 i0 i1
    omega
  · obtain ⟨q1, q2, q3, q4, q5, q6, q7⟩ := h13
    refine ⟨q1, by omega, by omega, by omega, by omega, fun i i0 i1 => ?_, q7⟩
    obtain ⟨p1, p2, p3, p4, p5, p6, p7⟩ := q6 i i0 i1
    exact ⟨p1, p2, by omega, p4, p5, by omega, p7⟩
  · have := h14 j j0 j1
    omega
theorem ixor1 {e : Int} (h0 : 0 ≤ e) (h1 : e < 4) : iXor e 1 = if e % 2 = 0 then e + 1 else e - 1 := by
  rcases (show e = 0 ∨ e = 1 ∨ e = 2 ∨ e = 3 by omega) with rfl | rfl | rfl | rfl <;> decide
theorem ixor_in {e : Int} (h0 : 0 ≤ e) (h1 : e < 4) : 0 ≤ iXor e 1 ∧ iXor e 1 ≤ 3 := by
  rw [ixor1 h0 h1]
  split <;> omega
section SR
variable {σ : Hp} {e ty nb vl w : Int}
theorem snd_f (hf : ¬ σ 89 21 = 24) : F_snd e ty nb vl w σ = F_snd0 e ty nb vl σ (fl6 σ 109 (11 * σ 89 21 + 2) 6 (sf w σ)) := by
  unfold F_snd
  rw [if_neg hf]
theorem snd_p (hf : ¬ σ 89 21 = 24) {j : Int} (hj : j < 11 * σ 89 21) : F_snd e ty nb vl w σ 109 j = σ 109 j := by
  rw [snd_f hf]
  unfold F_snd0
  rw [wr_a (by decide), wr_a (by decide), wr_k (by omega), wr_k (by omega), wr_k (by omega), wr_k (by omega), wr_k (by omega), wr_k (by omega), fl6_out (by omega)]
theorem snd_0 (hf : ¬ σ 89 21 = 24) : F_snd e ty nb vl w σ 109 (11 * σ 89 21) = iXor e 1 := by
  rw [snd_f hf]
  unfold F_snd0
  rw [wr_a (by decide), wr_a (by decide), wr_k (by omega), wr_k (by omega), wr_k (by omega), wr_k (by omega), wr_k (by omega), wr_e]
theorem snd_1 (hf : ¬ σ 89 21 = 24) : F_snd e ty nb vl w σ 109 (11 * σ 89 21 + 1) = ty := by
  rw [snd_f hf]
  unfold F_snd0
  rw [wr_a (by decide), wr_a (by decide), wr_k (by omega), wr_k (by omega), wr_k (by omega), wr_k (by omega), wr_e]
theorem snd_2 (hf : ¬ σ 89 21 = 24) : F_snd e ty nb vl w σ 109 (11 * σ 89 21 + 2) = nb := by
  rw [snd_f hf]
  unfold F_snd0
  rw [wr_a (by decide), wr_a (by decide), wr_k (by omega), wr_k (by omega), wr_k (by omega), wr_e]
theorem snd_i (hf : ¬ σ 89 21 = 24) {k : Int} (h1 : 3 ≤ k) (h2 : k ≤ 7) : F_snd e ty nb vl w σ 109 (11 * σ 89 21 + k) = sf w σ (k - 2) := by
  rw [snd_f hf]
  unfold F_snd0
  rw [wr_a (by decide), wr_a (by decide), wr_k (by omega), wr_k (by omega), wr_k (by omega), wr_k (by omega), wr_k (by omega), wr_k (by omega), fl6_in (by omega) (by omega)]
  congr 1
  omega
theorem snd_8 (hf : ¬ σ 89 21 = 24) : F_snd e ty nb vl w σ 109 (11 * σ 89 21 + 8) = vl := by
  rw [snd_f hf]
  unfold F_snd0
  rw [wr_a (by decide), wr_a (by decide), wr_k (by omega), wr_k (by omega), wr_e]
theorem snd_9 (hf : ¬ σ 89 21 = 24) : F_snd e ty nb vl w σ 109 (11 * σ 89 21 + 9) = σ 89 19 + σ 108 (e / 2) := by
  rw [snd_f hf]
  unfold F_snd0
  rw [wr_a (by decide), wr_a (by decide), wr_k (by omega), wr_e]
theorem snd_10 (hf : ¬ σ 89 21 = 24) : F_snd e ty nb vl w σ 109 (11 * σ 89 21 + 10) = σ 89 22 := by
  rw [snd_f hf]
  unfold F_snd0
  rw [wr_a (by decide), wr_a (by decide), wr_e]
theorem snd_m (hf : ¬ σ 89 21 = 24) : F_snd e ty nb vl w σ 89 21 = σ 89 21 + 1 := by
  rw [snd_f hf]
  exact wr_e
theorem snd_t (hf : ¬ σ 89 21 = 24) : F_snd e ty nb vl w σ 89 22 = σ 89 22 + 1 := by
  rw [snd_f hf]
  unfold F_snd0
  rw [wr_k (by decide), wr_e]
theorem snd_l (hf : ¬ σ 89 21 = 24) : F_snd e ty nb vl w σ 89 29 = σ 89 29 := by
  rw [snd_f hf]
  unfold F_snd0
  rw [wr_k (by decide), wr_k (by decide), wr_a (by decide), wr_a (by decide), wr_a (by decide), wr_a (by decide), wr_a (by decide), wr_a (by decide), fl6_off (by decide)]
theorem snd_x (hf : σ 89 21 = 24) : F_snd e ty nb vl w σ = wr σ 89 29 (σ 89 29 + 1) := by
  unfold F_snd
  rw [if_pos hf]
end SR
/-- a request's fields at the place w of the works -/
def Wk (σ : Hp) (w : Int) : Prop := 0 ≤ w ∧ (0 ≤ σ 97 (w + 1) ∧ σ 97 (w + 1) ≤ 4) ∧ (0 ≤ σ 97 (w + 2) ∧ σ 97 (w + 2) ≤ 3) ∧ (0 ≤ σ 97 (w + 3) ∧ σ 97 (w + 3) ≤ 11) ∧ (0 ≤ σ 97 (w + 4) ∧ σ 97 (w + 4) ≤ 9999) ∧ (0 ≤ σ 97 (w + 5) ∧ σ 97 (w + 5) ≤ 9999)
theorem iv_snd {σ : Hp} {n m e ty nb vl w : Int} (hI : IV σ n m) (hm : m ≤ 99999) (h0 : 0 ≤ e) (h1 : e < 4) (t0 : 0 ≤ ty) (t1 : ty ≤ 4) (b0 : 0 ≤ nb) (b1 : nb ≤ n) (v0 : 0 ≤ vl) (v1 : vl ≤ 9999) (hw : ty = 0 → Wk σ w) : IV (F_snd e ty nb vl w σ) n (m + 1) := by
  have hN := hI.n
  obtain ⟨q1, q2, q3, q4, q5, q6, q7⟩ := hI.q
  have hd := hI.d (e / 2) (by omega) (by omega)
  have hx := ixor_in h0 h1
  have off : ∀ a, a ≠ 109 → a ≠ 89 → F_snd e ty nb vl w σ a = σ a := fun a => snd_off
  refine ⟨st_snd hI.s q1.1, by omega, Ic_c (off _ (by decide) (by decide)) hI.c, Ik_c (off _ (by decide) (by decide)) (off _ (by decide) (by decide)) (off _ (by decide) (by decide)) hI.k, Ie_c (off _ (by decide) (by decide)) (off _ (by decide) (by decide)) (off _ (by decide) (by decide)) (off _ (by decide) (by decide)) (off _ (by decide) (by decide)) (off _ (by decide) (by decide)) (off _ (by decide) (by decide)) (off _ (by decide) (by decide)) (off _ (by decide) (by decide)) (off _ (by decide) (by decide)) (off _ (by decide) (by decide)) hI.e, Iw_c (off _ (by decide) (by decide)) (off _ (by decide) (by decide)) hI.w, Ip_c (off _ (by decide) (by decide)) (off _ (by decide) (by decide)) hI.p, Ig_c (off _ (by decide) (by decide)) (off _ (by decide) (by decide)) (off _ (by decide) (by decide)) hI.g, Id_c (off _ (by decide) (by decide)) hI.d, ?_, It_c (off _ (by decide) (by decide)) (off _ (by decide) (by decide)) (off _ (by decide) (by decide)) (off _ (by decide) (by decide)) hI.t, Ix_c (snd_89 (by decide) (by decide) (by decide)) (off _ (by decide) (by decide)) hI.x⟩
  by_cases hf : σ 89 21 = 24
  · rw [snd_x hf]
    unfold Iq Pk
    rw [wr_k (by decide), wr_k (by decide), wr_k (by decide), wr_k (by decide), wr_e]
    simp only [wr_a (show (109 : Int) ≠ 89 by decide)]
    exact ⟨q1, q2, by omega, q4, by omega, q6, q7⟩
  · unfold Iq
    rw [snd_m hf, snd_t hf, snd_l hf, snd_89 (k := 19) (by decide) (by decide) (by decide), snd_89 (k := 28) (by decide) (by decide) (by decide)]
    refine ⟨by omega, q2, by omega, q4, by omega, fun i i0 i1 => ?_, fun i j i0 ij j1 => ?_⟩
    · unfold Pk
      rw [snd_t hf]
      by_cases hi : i = σ 89 21
      · subst hi
        rw [snd_0 hf, snd_1 hf, snd_2 hf, snd_i hf (k := 3) (by decide) (by decide), snd_i hf (k := 4) (by decide) (by decide), snd_i hf (k := 5) (by decide) (by decide), snd_i hf (k := 6) (by decide) (by decide), snd_i hf (k := 7) (by decide) (by decide), snd_8 hf, snd_9 hf, snd_10 hf]
        refine ⟨hx, ⟨t0, t1⟩, ⟨b0, b1⟩, fun ht => ?_, ⟨v0, v1⟩, by omega, by omega⟩
        obtain ⟨w0, w1, w2, w3, w4, w5⟩ := hw ht
        unfold sf
        rw [if_neg (by omega), if_neg (by omega), if_neg (by omega), if_neg (by omega), if_neg (by omega)]
        exact ⟨w1, w2, w3, w4, w5⟩
      · have hi2 : i < σ 89 21 := by omega
        obtain ⟨p1, p2, p3, p4, p5, p6, p7⟩ := q6 i i0 hi2
        rw [snd_p hf (by omega), snd_p hf (by omega), snd_p hf (by omega), snd_p hf (by omega), snd_p hf (by omega), snd_p hf (by omega), snd_p hf (by omega), snd_p hf (by omega), snd_p hf (by omega), snd_p hf (by omega), snd_p hf (by omega)]
        exact ⟨p1, p2, p3, p4, p5, p6, by omega⟩
    · have hp := (q6 i i0 (by omega)).2.2.2.2.2.2
      rw [snd_p hf (j := 11 * i + 10) (by omega)]
      by_cases hj : j = σ 89 21
      · subst hj
        rw [snd_10 hf]
        exact hp.2
      · rw [snd_p hf (by omega)]
        exact q7 i j i0 ij (by omega)
