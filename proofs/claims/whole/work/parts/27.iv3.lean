/-! what holds of the reference's memory stays: a request taken in -/
theorem iv_cell {σ : Hp} {n m i v : Int} (hI : IV σ n m) (h0 : 0 ≤ i) (h1 : i < 24) (v0 : 0 ≤ v) (v1 : v ≤ 9999) : IV (wr σ 90 i v) n m := by
  have off : ∀ c, c ≠ 90 → wr σ 90 i v c = σ c := fun c h => wr_off h
  refine ⟨st_wr hI.s (by decide) (by decide) h0, hI.n, fun x x0 x1 => ?_, Ik_c (off 91 (by decide)) (off 92 (by decide)) (off 93 (by decide)) hI.k, Ie_c (off 94 (by decide)) (off 95 (by decide)) (off 96 (by decide)) (off 98 (by decide)) (off 99 (by decide)) (off 101 (by decide)) (off 102 (by decide)) (off 103 (by decide)) (off 104 (by decide)) (off 106 (by decide)) (off 107 (by decide)) hI.e, Iw_c (off 96 (by decide)) (off 97 (by decide)) hI.w, Ip_c (off 99 (by decide)) (off 100 (by decide)) hI.p, Ig_c (off 98 (by decide)) (off 104 (by decide)) (off 105 (by decide)) hI.g, Id_c (off 108 (by decide)) hI.d, Iq_c (by rw [(off 89 (by decide))]) (by rw [(off 89 (by decide))]) (by rw [(off 89 (by decide))]) (by rw [(off 89 (by decide))]) (by rw [(off 89 (by decide))]) (off 109 (by decide)) hI.q, It_c (off 96 (by decide)) (off 99 (by decide)) (off 111 (by decide)) (off 112 (by decide)) hI.t, Ix_c (by rw [(off 89 (by decide))]) (off 114 (by decide)) hI.x⟩
  rw [wr_v]
  split
  · omega
  · exact hI.c x x0 x1
theorem chm_104 {e r v x : Int} {σ : Hp} : F_chm e r v σ 104 x = if x = e then (if σ 104 e = 2 then 2 else σ 104 e + 1) else σ 104 x := by
  unfold F_chm
  by_cases hc : σ 104 e = 2
  · rw [if_pos hc, if_pos hc, wr_v]
    split
    · rfl
    · rename_i h
      rw [wr_a (by decide), wr_a (by decide), wr_k h, wr_a (by decide), wr_a (by decide), wr_a (by decide)]
  · rw [if_neg hc, if_neg hc, wr_v]
    split
    · rfl
    · rw [wr_a (by decide), wr_a (by decide), wr_a (by decide)]
theorem chm_105o {e r v x : Int} {σ : Hp} (c0 : 0 ≤ σ 104 e) (c1 : σ 104 e ≤ 2) (h : x < 4 * e ∨ 4 * e + 4 ≤ x) : F_chm e r v σ 105 x = σ 105 x := by
  unfold F_chm
  by_cases hc : σ 104 e = 2
  · rw [if_pos hc, wr_a (by decide), wr_k (by omega), wr_k (by omega), wr_a (by decide), wr_k (by omega), wr_k (by omega), wr_a (by decide)]
  · rw [if_neg hc, wr_a (by decide), wr_k (by omega), wr_k (by omega), wr_a (by decide)]
theorem chm_2 {e r v : Int} {σ : Hp} (hc : σ 104 e = 2) : F_chm e r v σ 105 (4 * e) = σ 105 (4 * e + 2) ∧ F_chm e r v σ 105 (4 * e + 1) = σ 105 (4 * e + 3) ∧ F_chm e r v σ 105 (4 * e + 2) = r ∧ F_chm e r v σ 105 (4 * e + 3) = v := by
  unfold F_chm
  rw [if_pos hc]
  refine ⟨?_, ?_, ?_, ?_⟩
  · rw [wr_a (by decide), wr_k (by omega), wr_k (by omega), wr_a (by decide), wr_k (by omega), wr_e]
  · rw [wr_a (by decide), wr_k (by omega), wr_k (by omega), wr_a (by decide), wr_e]
  · rw [wr_a (by decide), wr_k (by omega)]; exact wr_e
  · rw [wr_a (by decide), show 4 * e + 3 = 4 * e + 2 * 1 + 1 by omega]; exact wr_e
theorem chm_1 {e r v : Int} {σ : Hp} (hc : σ 104 e = 1) : F_chm e r v σ 105 (4 * e) = σ 105 (4 * e) ∧ F_chm e r v σ 105 (4 * e + 1) = σ 105 (4 * e + 1) ∧ F_chm e r v σ 105 (4 * e + 2) = r ∧ F_chm e r v σ 105 (4 * e + 3) = v := by
  unfold F_chm
  rw [if_neg (by omega), hc]
  refine ⟨?_, ?_, ?_, ?_⟩
  · rw [wr_a (by decide), wr_k (by omega), wr_k (by omega), wr_a (by decide)]
  · rw [wr_a (by decide), wr_k (by omega), wr_k (by omega), wr_a (by decide)]
  · rw [wr_a (by decide), wr_k (by omega)]; exact wr_e
  · rw [wr_a (by decide), show 4 * e + 3 = 4 * e + 2 * 1 + 1 by omega]; exact wr_e
theorem chm_0 {e r v : Int} {σ : Hp} (hc : σ 104 e = 0) : F_chm e r v σ 105 (4 * e) = r ∧ F_chm e r v σ 105 (4 * e + 1) = v := by
  unfold F_chm
  rw [if_neg (by omega), hc]
  refine ⟨?_, ?_⟩
  · rw [wr_a (by decide), wr_k (by omega), show 4 * e + 2 * 0 = 4 * e by omega]; exact wr_e
  · rw [wr_a (by decide), show 4 * e + 1 = 4 * e + 2 * 0 + 1 by omega]; exact wr_e
theorem iv_chm {σ : Hp} {n m e r v : Int} (hI : IV σ n m) (h0 : 0 ≤ e) (h1 : e < 4) (hr : σ 98 e = r) (hr2 : r + 1 ≤ n) (hd : σ 89 28 + 1 ≤ n) (v0 : 0 ≤ v) (v1 : v ≤ 9999) : IV (wr (F_chm e r v σ) 98 e (r + 1)) n m := by
  have hE := hI.e e h0 h1
  have hN := hI.n
  have hD := hI.q.2.2.2.1
  have off : ∀ c, c ≠ 98 → c ≠ 89 → c ≠ 104 → c ≠ 105 → wr (F_chm e r v σ) 98 e (r + 1) c = σ c := fun c q1 q2 q3 q4 => by rw [wr_off q1, chm_off q2 q3 q4]
  have o89 : ∀ k, k ≠ 28 → wr (F_chm e r v σ) 98 e (r + 1) 89 k = σ 89 k := fun k q => by rw [wr_a (by decide), chm_89, if_neg q]
  have o104 : ∀ x, wr (F_chm e r v σ) 98 e (r + 1) 104 x = if x = e then (if σ 104 e = 2 then 2 else σ 104 e + 1) else σ 104 x := fun x => by rw [wr_a (by decide), chm_104]
  have o98 : ∀ x, wr (F_chm e r v σ) 98 e (r + 1) 98 x = if x = e then r + 1 else σ 98 x := fun x => by rw [wr_v, chm_off (by decide) (by decide) (by decide)]
  have o105 : ∀ x, wr (F_chm e r v σ) 98 e (r + 1) 105 x = F_chm e r v σ 105 x := fun x => by rw [wr_a (by decide)]
  refine ⟨st_wr (st_chm hI.s h0 (by omega)) (by decide) (by decide) h0, hI.n, Ic_c (off 90 (by decide) (by decide) (by decide) (by decide)) hI.c, Ik_c (off 91 (by decide) (by decide) (by decide) (by decide)) (off 92 (by decide) (by decide) (by decide) (by decide)) (off 93 (by decide) (by decide) (by decide) (by decide)) hI.k, fun x x0 x1 => ?_, Iw_c (off 96 (by decide) (by decide) (by decide) (by decide)) (off 97 (by decide) (by decide) (by decide) (by decide)) hI.w, Ip_c (off 99 (by decide) (by decide) (by decide) (by decide)) (off 100 (by decide) (by decide) (by decide) (by decide)) hI.p, fun x x0 x1 => ?_, Id_c (off 108 (by decide) (by decide) (by decide) (by decide)) hI.d, ?_, It_c (off 96 (by decide) (by decide) (by decide) (by decide)) (off 99 (by decide) (by decide) (by decide) (by decide)) (off 111 (by decide) (by decide) (by decide) (by decide)) (off 112 (by decide) (by decide) (by decide) (by decide)) hI.t, Ix_c (o89 31 (by decide)) (off 114 (by decide) (by decide) (by decide) (by decide)) hI.x⟩
  · have hx := hI.e x x0 x1
    rw [o98, o104, off 94 (by decide) (by decide) (by decide) (by decide), off 95 (by decide) (by decide) (by decide) (by decide), off 96 (by decide) (by decide) (by decide) (by decide), off 99 (by decide) (by decide) (by decide) (by decide), off 101 (by decide) (by decide) (by decide) (by decide), off 102 (by decide) (by decide) (by decide) (by decide), off 103 (by decide) (by decide) (by decide) (by decide), off 106 (by decide) (by decide) (by decide) (by decide), off 107 (by decide) (by decide) (by decide) (by decide)]
    by_cases hq : x = e
    · subst hq
      rw [if_pos rfl, if_pos rfl]
      split <;> omega
    · rw [if_neg hq, if_neg hq]
      exact hx
  · have hg := hI.g x x0 x1
    rw [o104, o98, o105, o105, o105, o105]
    by_cases hq : x = e
    · subst hq
      rw [if_pos rfl, if_pos rfl]
      rcases (show σ 104 x = 0 ∨ σ 104 x = 1 ∨ σ 104 x = 2 by omega) with c | c | c
      · obtain ⟨a1, a2⟩ := chm_0 (r := r) (v := v) c
        rw [a1, a2, c, if_neg (by omega)]
        omega
      · obtain ⟨a1, a2, a3, a4⟩ := chm_1 (r := r) (v := v) c
        rw [a1, a2, a3, a4, c, if_neg (by omega)]
        have := hg.1 (by omega)
        omega
      · obtain ⟨a1, a2, a3, a4⟩ := chm_2 (r := r) (v := v) c
        rw [a1, a2, a3, a4, c, if_pos rfl]
        have := hg.2 (by omega)
        have := hg.1 (by omega)
        omega
    · rw [if_neg hq, if_neg hq, chm_105o (by omega) (by omega) (by omega), chm_105o (by omega) (by omega) (by omega), chm_105o (by omega) (by omega) (by omega), chm_105o (by omega) (by omega) (by omega)]
      exact hg
  · obtain ⟨q1, q2, q3, q4, q5, q6, q7⟩ := hI.q
    unfold Iq Pk
    rw [o89 21 (by decide), o89 19 (by decide), o89 22 (by decide), o89 29 (by decide), wr_a (j := 28) (by decide), chm_89, if_pos rfl, off 109 (by decide) (by decide) (by decide) (by decide)]
    have := hE
    exact ⟨q1, q2, q3, by omega, q5, q6, q7⟩
theorem iv_pas {σ : Hp} {n m e r v : Int} (hI : IV σ n m) (hm : m ≤ 99999) (h0 : 0 ≤ e) (h1 : e < 4) (hr : σ 98 e ≤ r) (hr2 : r + 1 ≤ n) (v0 : 0 ≤ v) (v1 : v ≤ 9999) : IV (F_pas e r v σ) n (m + 1) := by
  have hE := hI.e e h0 h1
  have hN := hI.n
  have hA := iv_e (a := 98) (v := r + 1) hI h0 h1 (by omega)
  have hB := iv_e (a := 103) (v := 0) hA h0 h1 (by omega)
  exact iv_snd hB hm h0 h1 (by decide) (by decide) (by omega) (by omega) v0 v1 (fun h => absurd h (by decide))
theorem iv_pac {σ : Hp} {n m e r v w : Int} (hI : IV σ n m) (hm : m ≤ 99999) (h0 : 0 ≤ e) (h1 : e < 4) (hr : σ 98 e = r) (hr2 : r + 1 ≤ n) (hd : σ 89 28 + 1 ≤ n) (v0 : 0 ≤ v) (v1 : v ≤ 9999) (w0 : 0 ≤ w) (w1 : w ≤ 9999) : IV (F_pas e r w (F_chm e r v σ)) n (m + 1) := by
  have hE := hI.e e h0 h1
  have hA := iv_chm hI h0 h1 hr hr2 hd v0 v1
  have hB := iv_e (a := 103) (v := 0) hA h0 h1 (by omega)
  exact iv_snd hB hm h0 h1 (by decide) (by decide) (by omega) (by omega) w0 w1 (fun h => absurd h (by decide))
theorem iv_rct {σ : Hp} {n m e r v : Int} (hI : IV σ n m) (hC : Co σ) (h0 : 0 ≤ e) (h1 : e < 4) (hz : 1 ≤ σ 99 e) : IV (F_tells e 5 r 0 v (F_rc2 e σ)) n m := by
  have hE := hI.e e h0 h1
  have hJ := hI.t (e % 2) (by omega) (by omega)
  have hp := hI.p e 0 h0 h1 (Int.le_refl 0) (by omega)
  rw [Int.add_zero] at hp
  have hI := iv_cell (i := 12 * (e % 2) + σ 100 (3 * e)) (v := σ 117 6) hI (by omega) (by omega) hC.2.2.1.1 hC.2.2.1.2
  have o2 : ∀ c, c ≠ 100 → c ≠ 99 → F_rc2 e σ c = wr σ 90 (12 * (e % 2) + σ 100 (3 * e)) (σ 117 6) c := fun c q1 q2 => by
    funext j
    unfold F_rc2
    rw [cpx_off q1, wr_a q2]
  unfold F_rc2 at o2 ⊢
  have e99 : wr σ 90 (12 * (e % 2) + σ 100 (3 * e)) (σ 117 6) 99 e = σ 99 e := wr_a (by decide)
  have e12 : ∀ x, wr σ 90 (12 * (e % 2) + σ 100 (3 * e)) (σ 117 6) 112 x = σ 112 x := fun x => wr_a (by decide)
  rw [← e99] at o2 ⊢
  generalize wr σ 90 (12 * (e % 2) + σ 100 (3 * e)) (σ 117 6) = τ at hI e99 e12 o2 ⊢
  rw [← e99] at hz hE
  rw [← e12] at hJ
  have off : ∀ c, c ≠ 110 → c ≠ 112 → c ≠ 100 → c ≠ 99 → F_tells e 5 r 0 v (cpx (wr τ 99 e (τ 99 e - 1)) 100 (3 * e) 100 (3 * e + 1) (τ 99 e - 1)) c = τ c := fun c q1 q2 q3 q4 => by rw [tells_off q1 q2, o2 c q3 q4]
  have hs : ST (cpx (wr τ 99 e (τ 99 e - 1)) 100 (3 * e) 100 (3 * e + 1) (τ 99 e - 1)) := st_cpx (st_wr hI.s (by decide) (by decide) h0) (by decide) (by decide) (by omega)
  have x12 : ∀ x, cpx (wr τ 99 e (τ 99 e - 1)) 100 (3 * e) 100 (3 * e + 1) (τ 99 e - 1) 112 x = τ 112 x := fun x => by rw [o2 112 (by decide) (by decide)]
  have o99 : ∀ x, F_tells e 5 r 0 v (cpx (wr τ 99 e (τ 99 e - 1)) 100 (3 * e) 100 (3 * e + 1) (τ 99 e - 1)) 99 x = if x = e then τ 99 e - 1 else τ 99 x := fun x => by
    rw [tells_off (by decide) (by decide), cpx_off (by decide), wr_v]
  have o112 : ∀ x, F_tells e 5 r 0 v (cpx (wr τ 99 e (τ 99 e - 1)) 100 (3 * e) 100 (3 * e + 1) (τ 99 e - 1)) 112 x = if x = e % 2 then τ 112 (e % 2) + 1 else τ 112 x := fun x => by
    by_cases hq : x = e % 2
    · rw [if_pos hq, hq, tells_112, x12]
    · rw [if_neg hq, tells_112o hq, x12]
  have o100 : ∀ x, F_tells e 5 r 0 v (cpx (wr τ 99 e (τ 99 e - 1)) 100 (3 * e) 100 (3 * e + 1) (τ 99 e - 1)) 100 x = cpx (wr τ 99 e (τ 99 e - 1)) 100 (3 * e) 100 (3 * e + 1) (τ 99 e - 1) 100 x := fun x => by rw [tells_off (by decide) (by decide)]
  refine ⟨st_tells hs (by rw [x12]; omega), hI.n, Ic_c (off 90 (by decide) (by decide) (by decide) (by decide)) hI.c, Ik_c (off 91 (by decide) (by decide) (by decide) (by decide)) (off 92 (by decide) (by decide) (by decide) (by decide)) (off 93 (by decide) (by decide) (by decide) (by decide)) hI.k, fun x x0 x1 => ?_, Iw_c (off 96 (by decide) (by decide) (by decide) (by decide)) (off 97 (by decide) (by decide) (by decide) (by decide)) hI.w, fun x i x0 x1 i0 i1 => ?_, Ig_c (off 98 (by decide) (by decide) (by decide) (by decide)) (off 104 (by decide) (by decide) (by decide) (by decide)) (off 105 (by decide) (by decide) (by decide) (by decide)) hI.g, Id_c (off 108 (by decide) (by decide) (by decide) (by decide)) hI.d, Iq_c (by rw [(off 89 (by decide) (by decide) (by decide) (by decide))]) (by rw [(off 89 (by decide) (by decide) (by decide) (by decide))]) (by rw [(off 89 (by decide) (by decide) (by decide) (by decide))]) (by rw [(off 89 (by decide) (by decide) (by decide) (by decide))]) (by rw [(off 89 (by decide) (by decide) (by decide) (by decide))]) (off 109 (by decide) (by decide) (by decide) (by decide)) hI.q, fun j j0 j1 => ?_, Ix_c (by rw [(off 89 (by decide) (by decide) (by decide) (by decide))]) (off 114 (by decide) (by decide) (by decide) (by decide)) hI.x⟩
  · have hx := hI.e x x0 x1
    rw [o99, off 94 (by decide) (by decide) (by decide) (by decide), off 95 (by decide) (by decide) (by decide) (by decide), off 96 (by decide) (by decide) (by decide) (by decide), off 98 (by decide) (by decide) (by decide) (by decide), off 101 (by decide) (by decide) (by decide) (by decide), off 102 (by decide) (by decide) (by decide) (by decide), off 103 (by decide) (by decide) (by decide) (by decide), off 104 (by decide) (by decide) (by decide) (by decide), off 106 (by decide) (by decide) (by decide) (by decide), off 107 (by decide) (by decide) (by decide) (by decide)]
    by_cases hq : x = e
    · subst hq
      rw [if_pos rfl]
      omega
    · rw [if_neg hq]
      exact hx
  · rw [o99] at i1
    rw [o100]
    by_cases hq : x = e
    · subst hq
      rw [if_pos rfl] at i1
      have := hI.p x (i + 1) x0 x1 (by omega) (by omega)
      rw [cpx_in (by omega) (by omega), wr_a (by decide), show 3 * x + i - 3 * x + (3 * x + 1) = 3 * x + (i + 1) by omega]
      exact this
    · rw [if_neg hq] at i1
      have hx := hI.e x x0 x1
      rw [cpx_out (by omega), wr_a (by decide)]
      exact hI.p x i x0 x1 i0 i1
  · have hj := hI.t j j0 j1
    rw [o99, o99, o112, off 96 (by decide) (by decide) (by decide) (by decide), off 111 (by decide) (by decide) (by decide) (by decide)]
    by_cases hje : j = e % 2
    · rw [if_pos hje]
      rw [hje] at hj ⊢
      by_cases he : e % 2 = e
      · rw [if_pos he, if_neg (by omega)]
        rw [he] at hj ⊢
        omega
      · have he2 : e % 2 + 2 = e := by omega
        rw [if_neg he, if_pos he2]
        rw [he2] at hj
        rw [he2]
        omega
    · rw [if_neg hje, if_neg (by omega), if_neg (by omega)]
      exact hj
theorem rct_98 {σ : Hp} {e r v x : Int} : F_tells e 5 r 0 v (F_rc2 e σ) 98 x = σ 98 x := by
  rw [tells_off (by decide) (by decide)]
  unfold F_rc2
  rw [cpx_off (by decide), wr_a (by decide), wr_a (by decide)]
theorem iv_rec {σ : Hp} {n m e r : Int} (hI : IV σ n m) (hC : Co σ) (hm : m ≤ 99990) (h0 : 0 ≤ e) (h1 : e < 4) (hr : σ 98 e = r) (hr2 : r + 1 ≤ n) : IV (F_rec e r σ) n (m + 1) := by
  have hN := hI.n
  have hE := hI.e e h0 h1
  unfold F_rec
  by_cases hz : σ 99 e = 0
  · rw [if_pos hz]
    exact (iv_snd hI (by omega) h0 h1 (by decide) (by decide) (by omega) (by omega) (by decide) (by decide) (fun h => absurd h (by decide)))
  · rw [if_neg hz]
    have hA := iv_rct (r := r) (v := σ 117 6) hI hC h0 h1 (by omega)
    exact iv_pas hA (by omega) h0 h1 (by rw [rct_98]; omega) hr2 (by decide) (by decide)
theorem iv_tag {n e r : Int} (h0 : 0 ≤ e) (h1 : e < 4) (r0 : 0 ≤ r) (r1 : r ≤ n) : ∀ (k : Nat) (i m : Int) (σ : Hp), IV σ n m → m + k ≤ 100000 → 0 ≤ i → i + k ≤ σ 104 e → IV (F_tag k e r i σ) n (m + k)
  | 0, i, m, σ, h, _, _, _ => by
    show IV σ n (m + 0)
    rw [Int.add_zero]
    exact h
  | k + 1, i, m, σ, h, hm, i0, hk => by
    show IV (F_tag k e r (i + 1) (if σ 105 (4 * e + 2 * i) = r then F_snd e 1 r (σ 105 (4 * e + 2 * i + 1)) (-1) σ else σ)) n (m + ((k + 1 : Nat) : Int))
    rw [show m + ((k + 1 : Nat) : Int) = m + 1 + k by omega]
    have hE := h.e e h0 h1
    have hG := h.g e h0 h1
    have hN := h.n
    by_cases hc : σ 105 (4 * e + 2 * i) = r
    · rw [if_pos hc]
      have hv : 0 ≤ σ 105 (4 * e + 2 * i + 1) ∧ σ 105 (4 * e + 2 * i + 1) ≤ 9999 := by
        rcases (show i = 0 ∨ i = 1 by omega) with q | q
        · subst q
          have := hG.1 (by omega)
          rw [show 4 * e + 2 * 0 + 1 = 4 * e + 1 by omega]
          omega
        · subst q
          have := hG.2 (by omega)
          rw [show 4 * e + 2 * 1 + 1 = 4 * e + 3 by omega]
          omega
      exact iv_tag h0 h1 r0 r1 k (i + 1) (m + 1) _ (iv_snd h (by omega) h0 h1 (by decide) (by decide) r0 r1 hv.1 hv.2 (fun q => absurd q (by decide))) (by omega) (by omega) (by rw [snd_off (by decide) (by decide)]; omega)
    · rw [if_neg hc]
      exact iv_tag h0 h1 r0 r1 k (i + 1) (m + 1) _ (h.up (Int.le_refl n) (by omega) (by omega) (by omega)) (by omega) (by omega) (by omega)
theorem iv_a1 {σ : Hp} {n m e k : Int} (hI : IV σ n m) (hC : Co σ) (h0 : 0 ≤ e) (h1 : e < 4) (hy : rsn (kk e σ) (σ 117 5) k σ ≤ 0) : IV (F_a1 e k σ) n m ∧ (0 ≤ σ 90 (ka e σ) ∧ σ 90 (ka e σ) ≤ 9999) ∧ ∀ c, c ≠ 90 → F_a1 e k σ c = σ c := by
  obtain ⟨hc4, hc5, hc6, hc7⟩ := hC
  have hok := rsn_ok hI.k (κ := kk e σ) (by unfold kk; omega) (by unfold kk; omega) hc5.1 hy
  have ab : 0 ≤ ka e σ ∧ ka e σ < 24 := by unfold ka; omega
  have hca := hI.c (ka e σ) ab.1 ab.2
  refine ⟨?_, hca, fun c q => ?_⟩
  · unfold F_a1
    split
    · exact iv_cell hI ab.1 ab.2 hc6.1 hc6.2
    · split
      · exact iv_cell hI ab.1 ab.2 (by omega) (by omega)
      · split
        · exact iv_cell hI ab.1 ab.2 hc7.1 hc7.2
        · exact hI
  · unfold F_a1
    (repeat' split) <;> first | rfl | exact wr_off q
theorem iv_acc {σ : Hp} {n m e r k : Int} (hI : IV σ n m) (hC : Co σ) (hm : m ≤ 99990) (h0 : 0 ≤ e) (h1 : e < 4) (r0 : 0 ≤ r) (hr : k = 2 ∨ r = σ 98 e) (hr1 : r ≤ σ 98 e) (hr2 : r + 1 ≤ n) (hd : σ 89 28 + 1 ≤ n) : IV (F_acc e r k σ) n (m + 1) := by
  have hN := hI.n
  have hE := hI.e e h0 h1
  have hy3 := rsn_in (κ := kk e σ) (off := σ 117 5) (k := k) (σ := σ)
  unfold F_acc
  by_cases hy : rsn (kk e σ) (σ 117 5) k σ ≤ 0
  · rw [if_pos hy]
    obtain ⟨hA, hv, ho⟩ := iv_a1 hI hC h0 h1 hy
    have o98 : F_a1 e k σ 98 e = σ 98 e := by rw [ho 98 (by decide)]
    have hw : 0 ≤ (if k = 1 then 0 else σ 90 (ka e σ)) ∧ (if k = 1 then 0 else σ 90 (ka e σ)) ≤ 9999 := by split <;> omega
    unfold F_a2 F_a3
    by_cases hk : k ≤ 2
    · rw [if_pos hk]
      split
      · exact iv_pas hA (by omega) h0 h1 (by omega) hr2 hw.1 hw.2
      · exact (iv_snd hA (by omega) h0 h1 (by decide) (by decide) r0 (by omega) hv.1 hv.2 (fun q => absurd q (by decide)))
    · rw [if_neg hk]
      have c98 : F_chm e r (σ 90 (ka e σ)) (F_a1 e k σ) 98 e = σ 98 e := by rw [chm_off (by decide) (by decide) (by decide), o98]
      rw [c98, if_pos (by omega)]
      exact iv_pac hA (by omega) h0 h1 (by omega) hr2 (by rw [ho 89 (by decide)]; exact hd) hv.1 hv.2 hw.1 hw.2
  · rw [if_neg hy]
    exact (iv_brk (iv_snd hI (by omega) h0 h1 (by decide) (by decide) r0 (by omega) (by omega) (by omega) (fun q => absurd q (by decide))) h0 h1)
theorem iv_req {σ : Hp} {n m e r k : Int} (hI : IV σ n m) (hC : Co σ) (hm : m ≤ 99990) (h0 : 0 ≤ e) (h1 : e < 4) (r0 : 0 ≤ r) (hr2 : r + 1 ≤ n) (hd : σ 89 28 + 1 ≤ n) : IV (F_req e r k σ) n (m + 2) := by
  have hN := hI.n
  have hE := hI.e e h0 h1
  unfold F_req
  by_cases q1 : r ≤ σ 98 e
  · rw [if_neg (not_not_intro q1)]
    by_cases q2 : k = 2 ∨ (r = σ 98 e ∧ ¬ k = 0)
    · rw [if_pos q2]
      exact (iv_acc hI hC hm h0 h1 r0 (by omega) q1 hr2 hd).up (by omega) (by omega) (by omega) (by omega)
    · rw [if_neg q2]
      by_cases q3 : r = σ 98 e
      · rw [if_pos q3]
        exact (iv_rec hI hC hm h0 h1 q3.symm hr2).up (by omega) (by omega) (by omega) (by omega)
      · rw [if_neg q3]
        split
        · exact (iv_tag h0 h1 r0 (by omega) (σ 104 e).toNat 0 m σ hI (by omega) (Int.le_refl 0) (by omega)).up (by omega) (by omega) (by omega) (by omega)
        · exact (iv_snd hI (by omega) h0 h1 (by decide) (by decide) r0 (by omega) (by decide) (by decide) (fun q => absurd q (by decide))).up (by omega) (by omega) (by omega) (by omega)
  · rw [if_pos q1]
    split
    · exact (iv_e (a := 103) (v := 1) (iv_snd hI (by omega) h0 h1 (by decide) (by decide) (by omega) (by omega) (by decide) (by decide) (fun q => absurd q (by decide))) h0 h1 (by omega)).up (by omega) (by omega) (by omega) (by omega)
    · exact hI.up (by omega) (by omega) (by omega) (by omega)
