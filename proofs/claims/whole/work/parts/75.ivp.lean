/-! the reference's methods keep its invariants -/
theorem iv_len {σ : Hp} {n m : Int} (hI : IV σ n m) : IV (wr σ 89 31 0) n m := by
  have r : ∀ a, a ≠ 89 → wr σ 89 31 0 a = σ a := fun a ha => wr_off ha
  refine ⟨st_wrS hI.s (by decide), hI.n, Ic_c (r _ (by decide)) hI.c, Ik_c (r _ (by decide)) (r _ (by decide)) (r _ (by decide)) hI.k, Ie_c (r _ (by decide)) (r _ (by decide)) (r _ (by decide)) (r _ (by decide)) (r _ (by decide)) (r _ (by decide)) (r _ (by decide)) (r _ (by decide)) (r _ (by decide)) (r _ (by decide)) (r _ (by decide)) hI.e, Iw_c (r _ (by decide)) (r _ (by decide)) hI.w, Ip_c (r _ (by decide)) (r _ (by decide)) hI.p, Ig_c (r _ (by decide)) (r _ (by decide)) (r _ (by decide)) hI.g, Id_c (r _ (by decide)) hI.d, Iq_c (wr_k (by decide)) (wr_k (by decide)) (wr_k (by decide)) (wr_k (by decide)) (wr_k (by decide)) (r _ (by decide)) hI.q, It_c (r _ (by decide)) (r _ (by decide)) (r _ (by decide)) (r _ (by decide)) hI.t, ?_⟩
  unfold Ix
  rw [wr_e]
  exact ⟨by decide, by decide, fun i i0 i1 => by omega⟩
theorem iv_let {σ : Hp} {n m v : Int} (hI : IV σ n m) (h : σ 89 31 < 200) (v0 : 0 ≤ v) (v1 : v ≤ 255) : IV (wr (wr σ 114 (σ 89 31) v) 89 31 (σ 89 31 + 1)) n m := by
  have r : ∀ a, a ≠ 89 → a ≠ 114 → wr (wr σ 114 (σ 89 31) v) 89 31 (σ 89 31 + 1) a = σ a := fun a h1 h2 => by rw [wr_off h1, wr_off h2]
  have r9 : ∀ k, k ≠ 31 → wr (wr σ 114 (σ 89 31) v) 89 31 (σ 89 31 + 1) 89 k = σ 89 k := fun k hk => by rw [wr_k hk, wr_a (by decide)]
  obtain ⟨x0, x1, x2⟩ := hI.x
  refine ⟨st_wrS (st_wr hI.s (by decide) (by decide) x0) (by decide), hI.n, Ic_c (r _ (by decide) (by decide)) hI.c, Ik_c (r _ (by decide) (by decide)) (r _ (by decide) (by decide)) (r _ (by decide) (by decide)) hI.k, Ie_c (r _ (by decide) (by decide)) (r _ (by decide) (by decide)) (r _ (by decide) (by decide)) (r _ (by decide) (by decide)) (r _ (by decide) (by decide)) (r _ (by decide) (by decide)) (r _ (by decide) (by decide)) (r _ (by decide) (by decide)) (r _ (by decide) (by decide)) (r _ (by decide) (by decide)) (r _ (by decide) (by decide)) hI.e, Iw_c (r _ (by decide) (by decide)) (r _ (by decide) (by decide)) hI.w, Ip_c (r _ (by decide) (by decide)) (r _ (by decide) (by decide)) hI.p, Ig_c (r _ (by decide) (by decide)) (r _ (by decide) (by decide)) (r _ (by decide) (by decide)) hI.g, Id_c (r _ (by decide) (by decide)) hI.d, Iq_c (r9 _ (by decide)) (r9 _ (by decide)) (r9 _ (by decide)) (r9 _ (by decide)) (r9 _ (by decide)) (r _ (by decide) (by decide)) hI.q, It_c (r _ (by decide) (by decide)) (r _ (by decide) (by decide)) (r _ (by decide) (by decide)) (r _ (by decide) (by decide)) hI.t, ?_⟩
  unfold Ix
  rw [wr_e]
  refine ⟨by omega, by omega, fun i i0 i1 => ?_⟩
  rw [wr_a (by decide), wr_v]
  split
  · omega
  · exact x2 i i0 (by omega)
theorem iv_lck {σ : Hp} {n m a : Int} (hI : IV σ n m) (h0 : 0 ≤ a) : IV (wr σ 92 a 0) n m := by
  have r : ∀ c, c ≠ 92 → wr σ 92 a 0 c = σ c := fun c hc => wr_off hc
  refine ⟨st_wr hI.s (by decide) (by decide) h0, hI.n, Ic_c (r _ (by decide)) hI.c, fun i i0 i1 => ?_, Ie_c (r _ (by decide)) (r _ (by decide)) (r _ (by decide)) (r _ (by decide)) (r _ (by decide)) (r _ (by decide)) (r _ (by decide)) (r _ (by decide)) (r _ (by decide)) (r _ (by decide)) (r _ (by decide)) hI.e, Iw_c (r _ (by decide)) (r _ (by decide)) hI.w, Ip_c (r _ (by decide)) (r _ (by decide)) hI.p, Ig_c (r _ (by decide)) (r _ (by decide)) (r _ (by decide)) hI.g, Id_c (r _ (by decide)) hI.d, Iq_c (by rw [r _ (by decide)]) (by rw [r _ (by decide)]) (by rw [r _ (by decide)]) (by rw [r _ (by decide)]) (by rw [r _ (by decide)]) (r _ (by decide)) hI.q, It_c (r _ (by decide)) (r _ (by decide)) (r _ (by decide)) (r _ (by decide)) hI.t, Ix_c (by rw [r _ (by decide)]) (r _ (by decide)) hI.x⟩
  have := hI.k i i0 i1
  rw [wr_v, wr_a (by decide), wr_a (by decide)]
  split
  · exact ⟨by decide, fun q => absurd rfl q⟩
  · exact this
theorem iv_rcp {σ : Hp} {n m e c : Int} (hI : IV σ n m) (hn : n ≤ 511) (h0 : 0 ≤ e) (h1 : e < 4) (hz : σ 99 e < 3) (c0 : 0 ≤ c) (c1 : c ≤ 11) : IV (wr (wr σ 100 (3 * e + σ 99 e) c) 99 e (σ 99 e + 1)) (n + 1) m := by
  have hJ := hI.up (n' := n + 1) (m' := m) (by omega) (by omega) (by omega) (hI.n.2.2.2)
  have hE := hI.e e h0 h1
  have r : ∀ a, a ≠ 99 → a ≠ 100 → wr (wr σ 100 (3 * e + σ 99 e) c) 99 e (σ 99 e + 1) a = σ a := fun a h1 h2 => by rw [wr_off h1, wr_off h2]
  have r9 : ∀ x, wr (wr σ 100 (3 * e + σ 99 e) c) 99 e (σ 99 e + 1) 99 x = if x = e then σ 99 e + 1 else σ 99 x := fun x => by rw [wr_v, wr_a (by decide)]
  refine ⟨st_wr (st_wr hI.s (by decide) (by decide) (by omega)) (by decide) (by decide) h0, hJ.n, Ic_c (r _ (by decide) (by decide)) hJ.c, Ik_c (r _ (by decide) (by decide)) (r _ (by decide) (by decide)) (r _ (by decide) (by decide)) hJ.k, fun x x0 x1 => ?_, Iw_c (r _ (by decide) (by decide)) (r _ (by decide) (by decide)) hJ.w, fun x i x0 x1 i0 i1 => ?_, Ig_c (r _ (by decide) (by decide)) (r _ (by decide) (by decide)) (r _ (by decide) (by decide)) hJ.g, Id_c (r _ (by decide) (by decide)) hJ.d, Iq_c (by rw [r _ (by decide) (by decide)]) (by rw [r _ (by decide) (by decide)]) (by rw [r _ (by decide) (by decide)]) (by rw [r _ (by decide) (by decide)]) (by rw [r _ (by decide) (by decide)]) (r _ (by decide) (by decide)) hJ.q, fun j j0 j1 => ?_, Ix_c (by rw [r _ (by decide) (by decide)]) (r _ (by decide) (by decide)) hJ.x⟩
  · have hx := hJ.e x x0 x1
    rw [r9, r 94 (by decide) (by decide), r 95 (by decide) (by decide), r 96 (by decide) (by decide), r 98 (by decide) (by decide), r 101 (by decide) (by decide), r 102 (by decide) (by decide), r 103 (by decide) (by decide), r 104 (by decide) (by decide), r 106 (by decide) (by decide), r 107 (by decide) (by decide)]
    split
    · omega
    · exact hx
  · rw [r9] at i1
    rw [wr_a (by decide), wr_v]
    have hx := hI.e x x0 x1
    split
    · exact ⟨c0, c1⟩
    · by_cases hxe : x = e
      · subst hxe
        rw [if_pos rfl] at i1
        exact hI.p x i x0 x1 i0 (by omega)
      · rw [if_neg hxe] at i1
        exact hI.p x i x0 x1 i0 i1
  · have hj := hI.t j j0 j1
    rw [r 111 (by decide) (by decide), r 112 (by decide) (by decide), r 96 (by decide) (by decide), r9, r9]
    (repeat' split) <;> first | omega | (subst_vars; omega)
theorem iv_tkn {σ : Hp} {n m j : Int} (hI : IV σ n m) (h0 : 0 ≤ j) (h1 : j < 2) (hz : ¬ σ 111 j = σ 112 j) : IV (F_tkn j σ) n m := by
  have r : ∀ a, a ≠ 113 → a ≠ 111 → a ≠ 89 → F_tkn j σ a = σ a := fun a q1 q2 q3 => tkn_off q1 q2 q3
  have hs : ST (F_tkn j σ) := st_wrS (st_wr (st_cpx (st_wr hI.s (by decide) (by decide) (by decide)) (by decide) (by decide) (by decide)) (by decide) (by decide) h0) (by decide)
  refine ⟨hs, hI.n, Ic_c (r _ (by decide) (by decide) (by decide)) hI.c, Ik_c (r _ (by decide) (by decide) (by decide)) (r _ (by decide) (by decide) (by decide)) (r _ (by decide) (by decide) (by decide)) hI.k, Ie_c (r _ (by decide) (by decide) (by decide)) (r _ (by decide) (by decide) (by decide)) (r _ (by decide) (by decide) (by decide)) (r _ (by decide) (by decide) (by decide)) (r _ (by decide) (by decide) (by decide)) (r _ (by decide) (by decide) (by decide)) (r _ (by decide) (by decide) (by decide)) (r _ (by decide) (by decide) (by decide)) (r _ (by decide) (by decide) (by decide)) (r _ (by decide) (by decide) (by decide)) (r _ (by decide) (by decide) (by decide)) hI.e, Iw_c (r _ (by decide) (by decide) (by decide)) (r _ (by decide) (by decide) (by decide)) hI.w, Ip_c (r _ (by decide) (by decide) (by decide)) (r _ (by decide) (by decide) (by decide)) hI.p, Ig_c (r _ (by decide) (by decide) (by decide)) (r _ (by decide) (by decide) (by decide)) (r _ (by decide) (by decide) (by decide)) hI.g, Id_c (r _ (by decide) (by decide) (by decide)) hI.d, Iq_c (tkn_89 (by decide)) (tkn_89 (by decide)) (tkn_89 (by decide)) (tkn_89 (by decide)) (tkn_89 (by decide)) (r _ (by decide) (by decide) (by decide)) hI.q, fun x x0 x1 => ?_, Ix_c (tkn_89 (by decide)) (r _ (by decide) (by decide) (by decide)) hI.x⟩
  have hx := hI.t x x0 x1
  rw [tkn_111, r 112 (by decide) (by decide) (by decide), r 96 (by decide) (by decide) (by decide), r 99 (by decide) (by decide) (by decide)]
  split
  · subst_vars
    omega
  · exact hx
theorem cl_up {σ τ : Hp} {n m n' m' : Int} (hI : IV σ n m) (h : IV τ n' m') (hn : n ≤ 511) (hm : m ≤ 99900) (h1 : n' ≤ n + 1) (h2 : m' ≤ m + 40) : IV τ (n + 1) (m + 40) := h.up h1 h2 (by omega) (by omega)
section IP
variable {σ : Hp} {n m : Int}
theorem ip_write {v : Int} (hI : IV σ n m) (hn : n ≤ 511) (hm : m ≤ 99900) : IV (M_write v σ).2 (n + 1) (m + 40) := by
  obtain ⟨x0, x1, x2⟩ := hI.x
  unfold M_write
  (repeat' split)
  · exact cl_up hI hI hn hm (by omega) (by omega)
  · exact cl_up hI hI hn hm (by omega) (by omega)
  · exact cl_up hI (iv_let hI (by omega) (by omega) (by omega)) hn hm (by omega) (by omega)
theorem ip_erase (hI : IV σ n m) (hn : n ≤ 511) (hm : m ≤ 99900) : IV (M_erase σ).2 (n + 1) (m + 40) := cl_up hI (iv_len hI) hn hm (by omega) (by omega)
theorem ip_fault (hI : IV σ n m) (hn : n ≤ 511) (hm : m ≤ 99900) : IV (M_fault σ).2 (n + 1) (m + 40) := cl_up hI (all_st (d := 0) hI).1 hn hm (by omega) (by omega)
theorem ip_tell (hI : IV σ n m) (hn : n ≤ 511) (hm : m ≤ 99900) : IV (M_tell σ).2 (n + 1) (m + 40) := by
  have a := (all_st (d := 0) hI).1
  unfold M_tell
  split
  · exact cl_up hI a hn hm (by omega) (by omega)
  · exact cl_up hI (iv_len (all_st (d := 1) a).1) hn hm (by omega) (by omega)
theorem ip_cell {j c : Int} (hI : IV σ n m) (hn : n ≤ 511) (hm : m ≤ 99900) : IV (M_cell j c σ).2 (n + 1) (m + 40) := by
  unfold M_cell
  (repeat' split) <;> exact cl_up hI hI hn hm (by omega) (by omega)
theorem ip_put {j c v : Int} (hI : IV σ n m) (hn : n ≤ 511) (hm : m ≤ 99900) : IV (M_put j c v σ).2 (n + 1) (m + 40) := by
  unfold M_put
  (repeat' split)
  · exact cl_up hI hI hn hm (by omega) (by omega)
  · exact cl_up hI hI hn hm (by omega) (by omega)
  · exact cl_up hI hI hn hm (by omega) (by omega)
  · exact cl_up hI (iv_cell hI (by omega) (by omega) (by omega) (by omega)) hn hm (by omega) (by omega)
theorem ip_door {j k w : Int} (hI : IV σ n m) (hn : n ≤ 511) (hm : m ≤ 99900) : IV (M_door j k w σ).2 (n + 1) (m + 40) := by
  unfold M_door
  (repeat' split) <;> exact cl_up hI hI hn hm (by omega) (by omega)
theorem ip_key {j k c l r : Int} (hI : IV σ n m) (hn : n ≤ 511) (hm : m ≤ 99900) : IV (M_key j k c l r σ).2 (n + 1) (m + 40) := by
  unfold M_key
  (repeat' split)
  · exact cl_up hI hI hn hm (by omega) (by omega)
  · exact cl_up hI hI hn hm (by omega) (by omega)
  · exact cl_up hI hI hn hm (by omega) (by omega)
  · exact cl_up hI hI hn hm (by omega) (by omega)
  · exact cl_up hI hI hn hm (by omega) (by omega)
  · exact cl_up hI (iv_keys hI (by omega) (by omega) (fun _ => by omega)) hn hm (by omega) (by omega)
theorem ip_lock {j k : Int} (hI : IV σ n m) (hn : n ≤ 511) (hm : m ≤ 99900) : IV (M_lock j k σ).2 (n + 1) (m + 40) := by
  unfold M_lock
  (repeat' split)
  · exact cl_up hI hI hn hm (by omega) (by omega)
  · exact cl_up hI hI hn hm (by omega) (by omega)
  · exact cl_up hI hI hn hm (by omega) (by omega)
  · exact cl_up hI (iv_lck hI (by omega)) hn hm (by omega) (by omega)
theorem ip_join {l : Int} (hI : IV σ n m) (hn : n ≤ 511) (hm : m ≤ 99900) : IV (M_join l σ).2 (n + 1) (m + 40) := by
  unfold M_join
  (repeat' split)
  · exact cl_up hI hI hn hm (by omega) (by omega)
  · exact cl_up hI hI hn hm (by omega) (by omega)
  · exact cl_up hI (iv_joi hI (by omega)) hn hm (by omega) (by omega)
theorem ip_tear {e : Int} (hI : IV σ n m) (hn : n ≤ 511) (hm : m ≤ 99900) : IV (M_tear e σ).2 (n + 1) (m + 40) := by
  unfold M_tear
  (repeat' split)
  · exact cl_up hI hI hn hm (by omega) (by omega)
  · exact cl_up hI hI hn hm (by omega) (by omega)
  · exact cl_up hI (iv_brk hI (by omega) (by omega)) hn hm (by omega) (by omega)
theorem ip_delay {l d : Int} (hI : IV σ n m) (hn : n ≤ 511) (hm : m ≤ 99900) : IV (M_delay l d σ).2 (n + 1) (m + 40) := by
  unfold M_delay
  (repeat' split)
  · exact cl_up hI hI hn hm (by omega) (by omega)
  · exact cl_up hI hI hn hm (by omega) (by omega)
  · exact cl_up hI (iv_108 hI (by omega) (by omega) (by omega)) hn hm (by omega) (by omega)
theorem ip_aim {e k o : Int} (hI : IV σ n m) (hn : n ≤ 511) (hm : m ≤ 99900) : IV (M_aim e k o σ).2 (n + 1) (m + 40) := by
  unfold M_aim
  (repeat' split)
  · exact cl_up hI hI hn hm (by omega) (by omega)
  · exact cl_up hI hI hn hm (by omega) (by omega)
  · exact cl_up hI hI hn hm (by omega) (by omega)
  · exact cl_up hI (iv_e (iv_e hI (by omega) (by omega) (by omega)) (by omega) (by omega) (by omega)) hn hm (by omega) (by omega)
  · exact cl_up hI (iv_e (iv_e hI (by omega) (by omega) (by omega)) (by omega) (by omega) (by omega)) hn hm (by omega) (by omega)
theorem ip_send {e v : Int} (hI : IV σ n m) (hn : n ≤ 511) (hm : m ≤ 99900) : IV (M_send e v σ).2 (n + 1) (m + 40) := by
  unfold M_send
  (repeat' split)
  · exact cl_up hI hI hn hm (by omega) (by omega)
  · exact cl_up hI hI hn hm (by omega) (by omega)
  · exact cl_up hI (iv_pst hI hn (by omega) (by omega) (by omega) (by omega) (by omega) (by omega) (by omega) (by omega) (by omega) (by omega) (by omega)) hn hm (by omega) (by omega)
theorem ip_store {e v : Int} (hI : IV σ n m) (hn : n ≤ 511) (hm : m ≤ 99900) : IV (M_store e v σ).2 (n + 1) (m + 40) := by
  unfold M_store
  (repeat' split)
  · exact cl_up hI hI hn hm (by omega) (by omega)
  · exact cl_up hI hI hn hm (by omega) (by omega)
  · exact cl_up hI (iv_pst hI hn (by omega) (by omega) (by omega) (by omega) (by omega) (by omega) (by omega) (by omega) (by omega) (by omega) (by omega)) hn hm (by omega) (by omega)
theorem ip_read {e c : Int} (hI : IV σ n m) (hn : n ≤ 511) (hm : m ≤ 99900) : IV (M_read e c σ).2 (n + 1) (m + 40) := by
  unfold M_read
  (repeat' split)
  · exact cl_up hI hI hn hm (by omega) (by omega)
  · exact cl_up hI hI hn hm (by omega) (by omega)
  · exact cl_up hI (iv_pst hI hn (by omega) (by omega) (by omega) (by omega) (by omega) (by omega) (by omega) (by omega) (by omega) (by omega) (by omega)) hn hm (by omega) (by omega)
theorem ip_add {e v c : Int} (hI : IV σ n m) (hn : n ≤ 511) (hm : m ≤ 99900) : IV (M_add e v c σ).2 (n + 1) (m + 40) := by
  unfold M_add
  (repeat' split)
  · exact cl_up hI hI hn hm (by omega) (by omega)
  · exact cl_up hI hI hn hm (by omega) (by omega)
  · exact cl_up hI hI hn hm (by omega) (by omega)
  · exact cl_up hI (iv_pst hI hn (by omega) (by omega) (by omega) (by omega) (by omega) (by omega) (by omega) (by omega) (by omega) (by omega) (by omega)) hn hm (by omega) (by omega)
theorem ip_swap {e v w c : Int} (hI : IV σ n m) (hn : n ≤ 511) (hm : m ≤ 99900) : IV (M_swap e v w c σ).2 (n + 1) (m + 40) := by
  unfold M_swap
  (repeat' split)
  · exact cl_up hI hI hn hm (by omega) (by omega)
  · exact cl_up hI hI hn hm (by omega) (by omega)
  · exact cl_up hI hI hn hm (by omega) (by omega)
  · exact cl_up hI hI hn hm (by omega) (by omega)
  · exact cl_up hI (iv_pst hI hn (by omega) (by omega) (by omega) (by omega) (by omega) (by omega) (by omega) (by omega) (by omega) (by omega) (by omega)) hn hm (by omega) (by omega)
theorem ip_receive {e c : Int} (hI : IV σ n m) (hn : n ≤ 511) (hm : m ≤ 99900) : IV (M_receive e c σ).2 (n + 1) (m + 40) := by
  unfold M_receive
  (repeat' split)
  · exact cl_up hI hI hn hm (by omega) (by omega)
  · exact cl_up hI hI hn hm (by omega) (by omega)
  · exact cl_up hI hI hn hm (by omega) (by omega)
  · exact cl_up hI hI hn hm (by omega) (by omega)
  · have hE := hI.e e (by omega) (by omega)
    exact cl_up hI (iv_rcp hI hn (by omega) (by omega) (by omega) (by omega) (by omega)) hn hm (by omega) (by omega)
theorem ip_step {way : Int} (hI : IV σ n m) (hn : n ≤ 511) (hm : m ≤ 99900) : IV (F_step way σ) (n + 1) (m + 40) := cl_up hI (iv_step hI hn hm) hn hm (by omega) (by omega)
theorem ip_tick {e : Int} (hI : IV σ n m) (hn : n ≤ 511) (hm : m ≤ 99900) : IV (M_tick e σ).2 (n + 1) (m + 40) := by
  unfold M_tick
  split
  · exact cl_up hI hI hn hm (by omega) (by omega)
  · split
    · exact cl_up hI hI hn hm (by omega) (by omega)
    · split
      · exact cl_up hI hI hn hm (by omega) (by omega)
      · have hE := hI.e e (by omega) (by omega)
        exact cl_up hI (iv_agn hI (by omega) (by omega) (by omega) (by omega)) hn hm (by omega) (by omega)
theorem ip_take {j : Int} (hI : IV σ n m) (hn : n ≤ 511) (hm : m ≤ 99900) : IV (M_take j σ).2 (n + 1) (m + 40) := by
  unfold M_take
  (repeat' split)
  · exact cl_up hI hI hn hm (by omega) (by omega)
  · exact cl_up hI hI hn hm (by omega) (by omega)
  · exact cl_up hI (iv_tkn hI (by omega) (by omega) (by assumption)) hn hm (by omega) (by omega)
theorem ip_taken {w : Int} (hI : IV σ n m) (hn : n ≤ 511) (hm : m ≤ 99900) : IV (M_taken w σ).2 (n + 1) (m + 40) := by
  unfold M_taken
  (repeat' split) <;> exact cl_up hI hI hn hm (by omega) (by omega)
theorem ip_end {e w : Int} (hI : IV σ n m) (hn : n ≤ 511) (hm : m ≤ 99900) : IV (M_end e w σ).2 (n + 1) (m + 40) := by
  have f : ∀ {c : Prop} [Decidable c] {p q : Int × Hp}, p.2 = σ → q.2 = σ → (if c then p else q).2 = σ := fun h1 h2 => by
    split
    · exact h1
    · exact h2
  have e2 : (M_end e w σ).2 = σ := by
    unfold M_end
    exact f rfl (f rfl (f rfl (f rfl (f rfl (f rfl (f rfl (f rfl (f (f rfl rfl) (f rfl (f rfl (f rfl rfl)))))))))))
  rw [e2]
  exact cl_up hI hI hn hm (by omega) (by omega)
theorem ip_open {e i w : Int} (hI : IV σ n m) (hn : n ≤ 511) (hm : m ≤ 99900) : IV (M_open e i w σ).2 (n + 1) (m + 40) := by
  unfold M_open
  (repeat' split) <;> exact cl_up hI hI hn hm (by omega) (by omega)
theorem ip_packet {w : Int} (hI : IV σ n m) (hn : n ≤ 511) (hm : m ≤ 99900) : IV (M_packet w σ).2 (n + 1) (m + 40) := by
  unfold M_packet
  (repeat' split) <;> exact cl_up hI hI hn hm (by omega) (by omega)
theorem ip_count {w : Int} (hI : IV σ n m) (hn : n ≤ 511) (hm : m ≤ 99900) : IV (M_count w σ).2 (n + 1) (m + 40) := by
  unfold M_count
  (repeat' split) <;> exact cl_up hI hI hn hm (by omega) (by omega)
end IP
