/-! what is read keeps the invariants -/
theorem iv_sc {σ : Hp} {n m k v : Int} (hI : IV σ n m) (hk : k = 27 ∨ k = 32 ∨ k = 33 ∨ k = 34 ∨ k = 35) : IV (wr σ 89 k v) n m := by
  have off : ∀ c, c ≠ 89 → wr σ 89 k v c = σ c := fun c h => wr_off h
  exact ⟨st_wrS hI.s (by omega), hI.n, Ic_c (off 90 (by decide)) hI.c, Ik_c (off 91 (by decide)) (off 92 (by decide)) (off 93 (by decide)) hI.k, Ie_c (off 94 (by decide)) (off 95 (by decide)) (off 96 (by decide)) (off 98 (by decide)) (off 99 (by decide)) (off 101 (by decide)) (off 102 (by decide)) (off 103 (by decide)) (off 104 (by decide)) (off 106 (by decide)) (off 107 (by decide)) hI.e, Iw_c (off 96 (by decide)) (off 97 (by decide)) hI.w, Ip_c (off 99 (by decide)) (off 100 (by decide)) hI.p, Ig_c (off 98 (by decide)) (off 104 (by decide)) (off 105 (by decide)) hI.g, Id_c (off 108 (by decide)) hI.d, Iq_c (wr_k (by omega)) (wr_k (by omega)) (wr_k (by omega)) (wr_k (by omega)) (wr_k (by omega)) (off 109 (by decide)) hI.q, It_c (off 96 (by decide)) (off 99 (by decide)) (off 111 (by decide)) (off 112 (by decide)) hI.t, Ix_c (wr_k (by omega)) (off 114 (by decide)) hI.x⟩
theorem iv_115 {σ : Hp} {n m k v : Int} (hI : IV σ n m) (h0 : 0 ≤ k) : IV (wr σ 115 k v) n m := by
  have off : ∀ c, c ≠ 115 → wr σ 115 k v c = σ c := fun c h => wr_off h
  exact ⟨st_wr hI.s (by decide) (by decide) h0, hI.n, Ic_c (off 90 (by decide)) hI.c, Ik_c (off 91 (by decide)) (off 92 (by decide)) (off 93 (by decide)) hI.k, Ie_c (off 94 (by decide)) (off 95 (by decide)) (off 96 (by decide)) (off 98 (by decide)) (off 99 (by decide)) (off 101 (by decide)) (off 102 (by decide)) (off 103 (by decide)) (off 104 (by decide)) (off 106 (by decide)) (off 107 (by decide)) hI.e, Iw_c (off 96 (by decide)) (off 97 (by decide)) hI.w, Ip_c (off 99 (by decide)) (off 100 (by decide)) hI.p, Ig_c (off 98 (by decide)) (off 104 (by decide)) (off 105 (by decide)) hI.g, Id_c (off 108 (by decide)) hI.d, Iq_c (by rw [(off 89 (by decide))]) (by rw [(off 89 (by decide))]) (by rw [(off 89 (by decide))]) (by rw [(off 89 (by decide))]) (by rw [(off 89 (by decide))]) (off 109 (by decide)) hI.q, It_c (off 96 (by decide)) (off 99 (by decide)) (off 111 (by decide)) (off 112 (by decide)) hI.t, Ix_c (by rw [(off 89 (by decide))]) (off 114 (by decide)) hI.x⟩
theorem iv_next {σ : Hp} {n m : Int} (hI : IV σ n m) : IV (F_next σ) n m := iv_sc (iv_sc hI (by decide)) (by decide)
theorem iv_rd {σ : Hp} {n m k lo hi : Int} (hI : IV σ n m) (h0 : 0 ≤ k) : IV (M_rd k lo hi σ).2 n m := by
  unfold M_rd
  (repeat' split) <;> first
    | exact hI
    | exact iv_next (iv_115 hI h0)
theorem rd_115 {σ : Hp} {k lo hi j : Int} (h : j ≠ k) : (M_rd k lo hi σ).2 115 j = σ 115 j := by
  unfold M_rd
  (repeat' split) <;> first
    | rfl
    | (show F_next (wr σ 115 k (nmH σ)) 115 j = σ 115 j
       rw [next_off (by decide), wr_k h])
theorem rd_89 {σ : Hp} {k lo hi j : Int} (h1 : j ≠ 32) (h2 : j ≠ 33) : (M_rd k lo hi σ).2 89 j = σ 89 j := by
  unfold M_rd
  (repeat' split) <;> first
    | rfl
    | (show F_next (wr σ 115 k (nmH σ)) 89 j = σ 89 j
       rw [next_89 h1 h2, wr_a (by decide)])
