/-! a clause done keeps the invariants -/
theorem iv_keys {σ : Hp} {n m a c l r : Int} (hI : IV σ n m) (h0 : 0 ≤ a) (l0 : 0 ≤ l) (hl : l ≠ 0 → 0 ≤ c ∧ c + l ≤ 12 ∧ 0 ≤ r ∧ r ≤ 7) : IV (F_keys a c l r σ) n m := by
  have off : ∀ x, x ≠ 91 → x ≠ 92 → x ≠ 93 → F_keys a c l r σ x = σ x := fun x q1 q2 q3 => by
    unfold F_keys
    rw [wr_off q3, wr_off q2, wr_off q1]
  have v1 : ∀ x, F_keys a c l r σ 91 x = if x = a then c else σ 91 x := fun x => by
    unfold F_keys
    rw [wr_a (by decide), wr_a (by decide), wr_v]
  have v2 : ∀ x, F_keys a c l r σ 92 x = if x = a then l else σ 92 x := fun x => by
    unfold F_keys
    rw [wr_a (by decide), wr_v, wr_a (by decide)]
  have v3 : ∀ x, F_keys a c l r σ 93 x = if x = a then r else σ 93 x := fun x => by
    unfold F_keys
    rw [wr_v, wr_a (by decide), wr_a (by decide)]
  refine ⟨st_wr (st_wr (st_wr hI.s (by decide) (by decide) h0) (by decide) (by decide) h0) (by decide) (by decide) h0, hI.n, Ic_c (off 90 (by decide) (by decide) (by decide)) hI.c, fun x x0 x1 => ?_, Ie_c (off 94 (by decide) (by decide) (by decide)) (off 95 (by decide) (by decide) (by decide)) (off 96 (by decide) (by decide) (by decide)) (off 98 (by decide) (by decide) (by decide)) (off 99 (by decide) (by decide) (by decide)) (off 101 (by decide) (by decide) (by decide)) (off 102 (by decide) (by decide) (by decide)) (off 103 (by decide) (by decide) (by decide)) (off 104 (by decide) (by decide) (by decide)) (off 106 (by decide) (by decide) (by decide)) (off 107 (by decide) (by decide) (by decide)) hI.e, Iw_c (off 96 (by decide) (by decide) (by decide)) (off 97 (by decide) (by decide) (by decide)) hI.w, Ip_c (off 99 (by decide) (by decide) (by decide)) (off 100 (by decide) (by decide) (by decide)) hI.p, Ig_c (off 98 (by decide) (by decide) (by decide)) (off 104 (by decide) (by decide) (by decide)) (off 105 (by decide) (by decide) (by decide)) hI.g, Id_c (off 108 (by decide) (by decide) (by decide)) hI.d, Iq_c (by rw [(off 89 (by decide) (by decide) (by decide))]) (by rw [(off 89 (by decide) (by decide) (by decide))]) (by rw [(off 89 (by decide) (by decide) (by decide))]) (by rw [(off 89 (by decide) (by decide) (by decide))]) (by rw [(off 89 (by decide) (by decide) (by decide))]) (off 109 (by decide) (by decide) (by decide)) hI.q, It_c (off 96 (by decide) (by decide) (by decide)) (off 99 (by decide) (by decide) (by decide)) (off 111 (by decide) (by decide) (by decide)) (off 112 (by decide) (by decide) (by decide)) hI.t, Ix_c (by rw [(off 89 (by decide) (by decide) (by decide))]) (off 114 (by decide) (by decide) (by decide)) hI.x⟩
  rw [v1, v2, v3]
  by_cases q : x = a
  · rw [if_pos q, if_pos q, if_pos q]
    exact ⟨l0, hl⟩
  · rw [if_neg q, if_neg q, if_neg q]
    exact hI.k x x0 x1
theorem iv_108 {σ : Hp} {n m l d : Int} (hI : IV σ n m) (h0 : 0 ≤ l) (d0 : 1 ≤ d) (d1 : d ≤ 9) : IV (wr σ 108 l d) n m := by
  have off : ∀ c, c ≠ 108 → wr σ 108 l d c = σ c := fun c h => wr_off h
  refine ⟨st_wr hI.s (by decide) (by decide) h0, hI.n, Ic_c (off 90 (by decide)) hI.c, Ik_c (off 91 (by decide)) (off 92 (by decide)) (off 93 (by decide)) hI.k, Ie_c (off 94 (by decide)) (off 95 (by decide)) (off 96 (by decide)) (off 98 (by decide)) (off 99 (by decide)) (off 101 (by decide)) (off 102 (by decide)) (off 103 (by decide)) (off 104 (by decide)) (off 106 (by decide)) (off 107 (by decide)) hI.e, Iw_c (off 96 (by decide)) (off 97 (by decide)) hI.w, Ip_c (off 99 (by decide)) (off 100 (by decide)) hI.p, Ig_c (off 98 (by decide)) (off 104 (by decide)) (off 105 (by decide)) hI.g, fun x x0 x1 => ?_, Iq_c (by rw [(off 89 (by decide))]) (by rw [(off 89 (by decide))]) (by rw [(off 89 (by decide))]) (by rw [(off 89 (by decide))]) (by rw [(off 89 (by decide))]) (off 109 (by decide)) hI.q, It_c (off 96 (by decide)) (off 99 (by decide)) (off 111 (by decide)) (off 112 (by decide)) hI.t, Ix_c (by rw [(off 89 (by decide))]) (off 114 (by decide)) hI.x⟩
  rw [wr_v]
  have := hI.d x x0 x1
  split <;> omega
theorem iv_does {σ : Hp} {n m w : Int} (hI : IV σ n m) (w0 : 0 ≤ w) (w1 : w ≤ 5) (hN : Nb w σ) : IV (F_does w σ) n m := by
  obtain ⟨n1, n2, n3, n4, n5⟩ := hN
  unfold F_does
  by_cases q0 : w = 0
  · rw [if_pos q0]
    exact iv_all hI
  · rw [if_neg q0]
    by_cases q1 : w = 1
    · rw [if_pos q1]
      have := n1 q1
      exact iv_keys hI (by omega) (by omega) (fun _ => by omega)
    · rw [if_neg q1]
      by_cases q2 : w = 2
      · rw [if_pos q2]
        have := n2 q2
        exact iv_cell hI (by omega) (by omega) (by omega) (by omega)
      · rw [if_neg q2]
        by_cases q3 : w = 3
        · rw [if_pos q3]
          have := n3 q3
          exact iv_108 hI (by omega) (by omega) (by omega)
        · rw [if_neg q3]
          by_cases q4 : w = 4
          · rw [if_pos q4]
            have := n4 q4
            exact iv_e (a := 107) (iv_e (a := 106) hI (by omega) (by omega) (by omega)) (by omega) (by omega) (by omega)
          · rw [if_neg q4]
            have := n5 (by omega)
            exact iv_joi hI (by omega)
