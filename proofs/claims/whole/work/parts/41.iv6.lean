/-! all anew keeps the invariants -/
theorem iv_f90 {σ : Hp} {n m : Int} (hI : IV σ n m) : IV (fl6 σ 90 0 24 (fun _ => 0)) n m := by
  have off : ∀ c, c ≠ 90 → fl6 σ 90 0 24 (fun _ => 0) c = σ c := fun c h => funext fun _ => fl6_off h
  refine ⟨st_fl6 hI.s (by decide) (by decide) (by decide), hI.n, fun x x0 x1 => ?_, Ik_c (off 91 (by decide)) (off 92 (by decide)) (off 93 (by decide)) hI.k, Ie_c (off 94 (by decide)) (off 95 (by decide)) (off 96 (by decide)) (off 98 (by decide)) (off 99 (by decide)) (off 101 (by decide)) (off 102 (by decide)) (off 103 (by decide)) (off 104 (by decide)) (off 106 (by decide)) (off 107 (by decide)) hI.e, Iw_c (off 96 (by decide)) (off 97 (by decide)) hI.w, Ip_c (off 99 (by decide)) (off 100 (by decide)) hI.p, Ig_c (off 98 (by decide)) (off 104 (by decide)) (off 105 (by decide)) hI.g, Id_c (off 108 (by decide)) hI.d, Iq_c (by rw [(off 89 (by decide))]) (by rw [(off 89 (by decide))]) (by rw [(off 89 (by decide))]) (by rw [(off 89 (by decide))]) (by rw [(off 89 (by decide))]) (off 109 (by decide)) hI.q, It_c (off 96 (by decide)) (off 99 (by decide)) (off 111 (by decide)) (off 112 (by decide)) hI.t, Ix_c (by rw [(off 89 (by decide))]) (off 114 (by decide)) hI.x⟩
  rw [fl6_in (by omega) (by omega)]
  exact ⟨by decide, by decide⟩
theorem iv_f92 {σ : Hp} {n m : Int} (hI : IV σ n m) : IV (fl6 σ 92 0 8 (fun _ => 0)) n m := by
  have off : ∀ c, c ≠ 92 → fl6 σ 92 0 8 (fun _ => 0) c = σ c := fun c h => funext fun _ => fl6_off h
  refine ⟨st_fl6 hI.s (by decide) (by decide) (by decide), hI.n, Ic_c (off 90 (by decide)) hI.c, fun x x0 x1 => ?_, Ie_c (off 94 (by decide)) (off 95 (by decide)) (off 96 (by decide)) (off 98 (by decide)) (off 99 (by decide)) (off 101 (by decide)) (off 102 (by decide)) (off 103 (by decide)) (off 104 (by decide)) (off 106 (by decide)) (off 107 (by decide)) hI.e, Iw_c (off 96 (by decide)) (off 97 (by decide)) hI.w, Ip_c (off 99 (by decide)) (off 100 (by decide)) hI.p, Ig_c (off 98 (by decide)) (off 104 (by decide)) (off 105 (by decide)) hI.g, Id_c (off 108 (by decide)) hI.d, Iq_c (by rw [(off 89 (by decide))]) (by rw [(off 89 (by decide))]) (by rw [(off 89 (by decide))]) (by rw [(off 89 (by decide))]) (by rw [(off 89 (by decide))]) (off 109 (by decide)) hI.q, It_c (off 96 (by decide)) (off 99 (by decide)) (off 111 (by decide)) (off 112 (by decide)) hI.t, Ix_c (by rw [(off 89 (by decide))]) (off 114 (by decide)) hI.x⟩
  rw [fl6_in (by omega) (by omega)]
  exact ⟨by decide, fun h => absurd rfl h⟩
theorem iv_ae {σ : Hp} {n m e : Int} (hI : IV σ n m) (h0 : 0 ≤ e) (h1 : e < 4) : IV (F_ae e σ) n m :=
  iv_e (a := 107) (v := 0) (iv_e (a := 106) (v := 0) (iv_anew hI h0 (by decide) (by decide)) h0 h1 (by omega)) h0 h1 (by omega)
theorem iv_aes {n m : Int} : ∀ (k : Nat) (e : Int) (σ : Hp), IV σ n m → 0 ≤ e → e + k ≤ 4 → IV (F_aes k e σ) n m
  | 0, _, _, h, _, _ => h
  | k + 1, e, σ, h, h0, h1 => iv_aes k (e + 1) _ (iv_ae h h0 (by omega)) (by omega) (by omega)
theorem iv_al {σ : Hp} {n m l : Int} (hI : IV σ n m) (h0 : 0 ≤ l) (h1 : l < 2) : IV (F_al l σ) n m := by
  have off : ∀ c, c ≠ 108 → c ≠ 111 → c ≠ 112 → F_al l σ c = σ c := fun c q1 q2 q3 => by
    unfold F_al
    rw [wr_off q3, wr_off q2, wr_off q1]
  have v8 : ∀ x, F_al l σ 108 x = if x = l then 1 else σ 108 x := fun x => by
    unfold F_al
    rw [wr_a (by decide), wr_a (by decide), wr_v]
  have v1 : ∀ x, F_al l σ 111 x = if x = l then 0 else σ 111 x := fun x => by
    unfold F_al
    rw [wr_a (by decide), wr_v, wr_a (by decide)]
  have v2 : ∀ x, F_al l σ 112 x = if x = l then 0 else σ 112 x := fun x => by
    unfold F_al
    rw [wr_v, wr_a (by decide), wr_a (by decide)]
  refine ⟨st_al hI.s h0, hI.n, Ic_c (off 90 (by decide) (by decide) (by decide)) hI.c, Ik_c (off 91 (by decide) (by decide) (by decide)) (off 92 (by decide) (by decide) (by decide)) (off 93 (by decide) (by decide) (by decide)) hI.k, Ie_c (off 94 (by decide) (by decide) (by decide)) (off 95 (by decide) (by decide) (by decide)) (off 96 (by decide) (by decide) (by decide)) (off 98 (by decide) (by decide) (by decide)) (off 99 (by decide) (by decide) (by decide)) (off 101 (by decide) (by decide) (by decide)) (off 102 (by decide) (by decide) (by decide)) (off 103 (by decide) (by decide) (by decide)) (off 104 (by decide) (by decide) (by decide)) (off 106 (by decide) (by decide) (by decide)) (off 107 (by decide) (by decide) (by decide)) hI.e, Iw_c (off 96 (by decide) (by decide) (by decide)) (off 97 (by decide) (by decide) (by decide)) hI.w, Ip_c (off 99 (by decide) (by decide) (by decide)) (off 100 (by decide) (by decide) (by decide)) hI.p, Ig_c (off 98 (by decide) (by decide) (by decide)) (off 104 (by decide) (by decide) (by decide)) (off 105 (by decide) (by decide) (by decide)) hI.g, fun x x0 x1 => ?_, Iq_c (by rw [(off 89 (by decide) (by decide) (by decide))]) (by rw [(off 89 (by decide) (by decide) (by decide))]) (by rw [(off 89 (by decide) (by decide) (by decide))]) (by rw [(off 89 (by decide) (by decide) (by decide))]) (by rw [(off 89 (by decide) (by decide) (by decide))]) (off 109 (by decide) (by decide) (by decide)) hI.q, fun j j0 j1 => ?_, Ix_c (by rw [(off 89 (by decide) (by decide) (by decide))]) (off 114 (by decide) (by decide) (by decide)) hI.x⟩
  · rw [v8]
    have := hI.d x x0 x1
    split <;> omega
  · have hj := hI.t j j0 j1
    rw [v1, v2, off 96 (by decide) (by decide) (by decide), off 99 (by decide) (by decide) (by decide)]
    split <;> omega
theorem iv_az {σ : Hp} {n m : Int} (hI : IV σ n m) : IV (F_az σ) n m := by
  have hN := hI.n
  have q3 := hI.q.2.2.1
  have off : ∀ c, c ≠ 89 → F_az σ c = σ c := fun c h => by
    unfold F_az
    rw [wr_off h, wr_off h, wr_off h, wr_off h, wr_off h]
  have z1 : F_az σ 89 21 = 0 := by unfold F_az; rw [wr_k (by decide), wr_k (by decide), wr_k (by decide), wr_e]
  have z2 : F_az σ 89 19 = 0 := by unfold F_az; rw [wr_k (by decide), wr_k (by decide), wr_k (by decide), wr_k (by decide), wr_e]
  have z3 : F_az σ 89 22 = σ 89 22 := by unfold F_az; rw [wr_k (by decide), wr_k (by decide), wr_k (by decide), wr_k (by decide), wr_k (by decide)]
  have z4 : F_az σ 89 28 = 0 := by unfold F_az; rw [wr_k (by decide), wr_e]
  have z5 : F_az σ 89 29 = 0 := by unfold F_az; rw [wr_e]
  have z6 : F_az σ 89 31 = σ 89 31 := by unfold F_az; rw [wr_k (by decide), wr_k (by decide), wr_k (by decide), wr_k (by decide), wr_k (by decide)]
  refine ⟨st_az hI.s, hI.n, Ic_c (off 90 (by decide)) hI.c, Ik_c (off 91 (by decide)) (off 92 (by decide)) (off 93 (by decide)) hI.k, Ie_c (off 94 (by decide)) (off 95 (by decide)) (off 96 (by decide)) (off 98 (by decide)) (off 99 (by decide)) (off 101 (by decide)) (off 102 (by decide)) (off 103 (by decide)) (off 104 (by decide)) (off 106 (by decide)) (off 107 (by decide)) hI.e, Iw_c (off 96 (by decide)) (off 97 (by decide)) hI.w, Ip_c (off 99 (by decide)) (off 100 (by decide)) hI.p, Ig_c (off 98 (by decide)) (off 104 (by decide)) (off 105 (by decide)) hI.g, Id_c (off 108 (by decide)) hI.d, ?_, It_c (off 96 (by decide)) (off 99 (by decide)) (off 111 (by decide)) (off 112 (by decide)) hI.t, Ix_c z6 (off 114 (by decide)) hI.x⟩
  unfold Iq
  rw [z1, z2, z3, z4, z5]
  exact ⟨by omega, by omega, q3, by omega, by omega, fun i i0 i1 => by omega, fun i j i0 ij j1 => by omega⟩
theorem iv_all {σ : Hp} {n m : Int} (hI : IV σ n m) : IV (F_all σ) n m :=
  iv_az (iv_al (iv_al (iv_aes 4 0 _ (iv_f92 (iv_f90 hI)) (by decide) (by decide)) (by decide) (by decide)) (by decide) (by decide))
