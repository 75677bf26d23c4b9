/-! what holds of the reference's memory stays: told, broken, tried again -/
theorem old_96v {e r v x : Int} {σ : Hp} : F_old e r v σ 96 x = if x = e then σ 96 e - 1 else σ 96 x := by
  split
  · rename_i h; subst h; exact old_96
  · rename_i h; exact old_96o h
theorem old_112v {e r v x : Int} {σ : Hp} : F_old e r v σ 112 x = if x = e % 2 then σ 112 (e % 2) + 1 else σ 112 x := by
  split
  · rename_i h; subst h; exact old_112
  · rename_i h; exact old_112o h
theorem old_101v {e r v x : Int} {σ : Hp} : F_old e r v σ 101 x = if x = e then 0 else σ 101 x := by
  split
  · rename_i h; subst h; exact old_101
  · rename_i h; exact old_101o h
theorem old_102v {e r v x : Int} {σ : Hp} : F_old e r v σ 102 x = if x = e then 0 else σ 102 x := by
  split
  · rename_i h; subst h; exact old_102
  · rename_i h; exact old_102o h
theorem iv_old {σ : Hp} {n m e r v : Int} (hI : IV σ n m) (h0 : 0 ≤ e) (h1 : e < 4) (ho : 1 ≤ σ 96 e) : IV (F_old e r v σ) n m := by
  have hE := hI.e e h0 h1
  have hJ := hI.t (e % 2) (by omega) (by omega)
  have off : ∀ a, a ≠ 110 → a ≠ 112 → a ≠ 96 → a ≠ 97 → a ≠ 101 → a ≠ 102 → F_old e r v σ a = σ a := fun a => old_off
  refine ⟨st_old hI.s h0 (by omega), hI.n, Ic_c (off _ (by decide) (by decide) (by decide) (by decide) (by decide) (by decide)) hI.c, Ik_c (off _ (by decide) (by decide) (by decide) (by decide) (by decide) (by decide)) (off _ (by decide) (by decide) (by decide) (by decide) (by decide) (by decide)) (off _ (by decide) (by decide) (by decide) (by decide) (by decide) (by decide)) hI.k, fun x x0 x1 => ?_, fun x i x0 x1 i0 i1 => ?_, Ip_c (off _ (by decide) (by decide) (by decide) (by decide) (by decide) (by decide)) (off _ (by decide) (by decide) (by decide) (by decide) (by decide) (by decide)) hI.p, Ig_c (off _ (by decide) (by decide) (by decide) (by decide) (by decide) (by decide)) (off _ (by decide) (by decide) (by decide) (by decide) (by decide) (by decide)) (off _ (by decide) (by decide) (by decide) (by decide) (by decide) (by decide)) hI.g, Id_c (off _ (by decide) (by decide) (by decide) (by decide) (by decide) (by decide)) hI.d, ?_, fun j j0 j1 => ?_, ?_⟩
  · have hx := hI.e x x0 x1
    rw [old_96v, old_101v, old_102v, off 94 (by decide) (by decide) (by decide) (by decide) (by decide) (by decide), off 95 (by decide) (by decide) (by decide) (by decide) (by decide) (by decide), off 98 (by decide) (by decide) (by decide) (by decide) (by decide) (by decide), off 99 (by decide) (by decide) (by decide) (by decide) (by decide) (by decide), off 103 (by decide) (by decide) (by decide) (by decide) (by decide) (by decide), off 104 (by decide) (by decide) (by decide) (by decide) (by decide) (by decide), off 106 (by decide) (by decide) (by decide) (by decide) (by decide) (by decide), off 107 (by decide) (by decide) (by decide) (by decide) (by decide) (by decide)]
    split
    · omega
    · exact hx
  · rw [old_96v] at i1
    by_cases hx : x = e
    · subst hx
      rw [if_pos rfl] at i1
      have hw := hI.w x (i + 1) x0 x1 (by omega) (by omega)
      rw [old_97i (by omega) (by omega), old_97i (by omega) (by omega), old_97i (by omega) (by omega), old_97i (by omega) (by omega), old_97i (by omega) (by omega), old_97i (by omega) (by omega), old_97i (by omega) (by omega)]
      rw [show 28 * x + 7 * i + 7 = 28 * x + 7 * (i + 1) by omega, show 28 * x + 7 * i + 1 + 7 = 28 * x + 7 * (i + 1) + 1 by omega, show 28 * x + 7 * i + 2 + 7 = 28 * x + 7 * (i + 1) + 2 by omega, show 28 * x + 7 * i + 3 + 7 = 28 * x + 7 * (i + 1) + 3 by omega, show 28 * x + 7 * i + 4 + 7 = 28 * x + 7 * (i + 1) + 4 by omega, show 28 * x + 7 * i + 5 + 7 = 28 * x + 7 * (i + 1) + 5 by omega, show 28 * x + 7 * i + 6 + 7 = 28 * x + 7 * (i + 1) + 6 by omega]
      exact hw
    · rw [if_neg hx] at i1
      have hx4 := hI.e x x0 x1
      have hw := hI.w x i x0 x1 i0 i1
      rw [old_97o (by omega), old_97o (by omega), old_97o (by omega), old_97o (by omega), old_97o (by omega), old_97o (by omega), old_97o (by omega)]
      exact hw
  · refine Iq_c ?_ ?_ ?_ ?_ ?_ (off _ (by decide) (by decide) (by decide) (by decide) (by decide) (by decide)) hI.q <;> rw [off 89 (by decide) (by decide) (by decide) (by decide) (by decide) (by decide)]
  · have hj := hI.t j j0 j1
    rw [old_96v, old_96v, old_112v, off 99 (by decide) (by decide) (by decide) (by decide) (by decide) (by decide), off 111 (by decide) (by decide) (by decide) (by decide) (by decide) (by decide)]
    by_cases hje : j = e % 2
    · rw [if_pos hje]
      rw [hje] at hj ⊢
      by_cases he : e % 2 = e
      · rw [if_pos he, if_neg (by omega)]
        rw [he] at hj ⊢
        omega
      · have he2 : e % 2 + 2 = e := by omega
        rw [if_neg he, if_pos he2]
        rw [he2] at hj
        rw [he2]
        omega
    · rw [if_neg hje, if_neg (by omega), if_neg (by omega)]
      exact hj
  · refine Ix_c ?_ (off _ (by decide) (by decide) (by decide) (by decide) (by decide) (by decide)) hI.x
    rw [off 89 (by decide) (by decide) (by decide) (by decide) (by decide) (by decide)]
theorem wr_v {h : Hp} {a k v x : Int} : wr h a k v a x = if x = k then v else h a x := by
  split
  · rename_i q; subst q; exact wr_e
  · rename_i q; exact wr_k q
/-- an end's number is written: the same rows but one -/
theorem iv_e {σ : Hp} {n m a e v : Int} (hI : IV σ n m) (h0 : 0 ≤ e) (h1 : e < 4) (hv : (a = 94 ∧ 0 ≤ v ∧ v ≤ 2) ∨ (a = 95 ∧ 0 ≤ v ∧ v ≤ n) ∨ (a = 101 ∧ 0 ≤ v ∧ v ≤ 3) ∨ (a = 102 ∧ 0 ≤ v ∧ v ≤ 3) ∨ (a = 103 ∧ 0 ≤ v ∧ v ≤ 1) ∨ (a = 106 ∧ 0 ≤ v ∧ v ≤ 3) ∨ (a = 107 ∧ 0 ≤ v ∧ v ≤ 11) ∨ (a = 98 ∧ σ 98 e ≤ v ∧ v ≤ n)) : IV (wr σ a e v) n m := by
  have off : ∀ c, c ≠ a → wr σ a e v c = σ c := fun c h => wr_off h
  have hE := hI.e e h0 h1
  refine ⟨st_wr hI.s (by omega) (by omega) h0, hI.n, Ic_c (off _ (by omega)) hI.c, Ik_c (off _ (by omega)) (off _ (by omega)) (off _ (by omega)) hI.k, fun x x0 x1 => ?_, Iw_c (off _ (by omega)) (off _ (by omega)) hI.w, Ip_c (off _ (by omega)) (off _ (by omega)) hI.p, ?_, Id_c (off _ (by omega)) hI.d, Iq_c (by rw [off _ (by omega)]) (by rw [off _ (by omega)]) (by rw [off _ (by omega)]) (by rw [off _ (by omega)]) (by rw [off _ (by omega)]) (off _ (by omega)) hI.q, It_c (off _ (by omega)) (off _ (by omega)) (off _ (by omega)) (off _ (by omega)) hI.t, Ix_c (by rw [off _ (by omega)]) (off _ (by omega)) hI.x⟩
  · have hx := hI.e x x0 x1
    rcases hv with hv | hv | hv | hv | hv | hv | hv | hv <;> obtain ⟨rfl, v0, v1⟩ := hv <;> simp only [wr_v, wr_off (show (94 : Int) ≠ 95 by decide), wr_a, ne_eq, Int.reduceEq, not_false_eq_true] <;> (by_cases hq : x = e) <;> (first | (subst hq; simp only [if_true]; omega) | (simp only [hq, if_false]; omega))
  · by_cases ha : a = 98
    · subst ha
      have hv2 : σ 98 e ≤ v := by omega
      intro x x0 x1
      have hg := hI.g x x0 x1
      rw [wr_v, off 104 (by decide), off 105 (by decide)]
      by_cases hq : x = e
      · subst hq
        rw [if_pos rfl]
        exact ⟨fun q => ⟨(hg.1 q).1, by have := (hg.1 q).2.1; omega, (hg.1 q).2.2⟩, fun q => ⟨(hg.2 q).1, by have := (hg.2 q).2.1; omega, (hg.2 q).2.2⟩⟩
      · rw [if_neg hq]
        exact hg
    · exact Ig_c (off _ (by omega)) (off _ (by omega)) (off _ (by omega)) hI.g
theorem iv_fin {n m e : Int} (h0 : 0 ≤ e) (h1 : e < 4) : ∀ (k : Nat) (σ : Hp), IV σ n m → (k : Int) ≤ σ 96 e → IV (F_fin k e σ) n m
  | 0, _, h, _ => h
  | k + 1, σ, h, hk => iv_fin h0 h1 k _ (iv_old h h0 h1 (by omega)) (by rw [old_96]; omega)
theorem rcv_110 {e : Int} {a : Int} (h1 : a ≠ 110) (h2 : a ≠ 112) (n : Nat) (i : Int) (σ : Hp) : F_rcv n e i σ a = σ a := rcv_off h1 h2 n i σ
theorem rcv_112v {e x : Int} (n : Nat) (i : Int) (σ : Hp) : F_rcv n e i σ 112 x = if x = e % 2 then σ 112 (e % 2) + n else σ 112 x := by
  split
  · rename_i h; subst h; exact rcv_112 n i σ
  · rename_i h; exact rcv_112o h n i σ
theorem iv_rc {σ : Hp} {n m e : Int} (hI : IV σ n m) (h0 : 0 ≤ e) (h1 : e < 4) : IV (wr (F_rcv (σ 99 e).toNat e 0 σ) 99 e 0) n m := by
  have hE := hI.e e h0 h1
  have hJ := hI.t (e % 2) (by omega) (by omega)
  have off : ∀ a, a ≠ 99 → a ≠ 110 → a ≠ 112 → wr (F_rcv (σ 99 e).toNat e 0 σ) 99 e 0 a = σ a := fun a q1 q2 q3 => by rw [wr_off q1, rcv_off q2 q3]
  have r99 : ∀ x, wr (F_rcv (σ 99 e).toNat e 0 σ) 99 e 0 99 x = if x = e then 0 else σ 99 x := fun x => by rw [wr_v, rcv_off (by decide) (by decide)]
  have r12 : ∀ x, wr (F_rcv (σ 99 e).toNat e 0 σ) 99 e 0 112 x = if x = e % 2 then σ 112 (e % 2) + (σ 99 e).toNat else σ 112 x := fun x => by rw [wr_a (by decide), rcv_112v]
  refine ⟨st_wr (st_rcv _ _ _ hI.s (by omega)) (by decide) (by decide) h0, hI.n, Ic_c (off _ (by decide) (by decide) (by decide)) hI.c, Ik_c (off _ (by decide) (by decide) (by decide)) (off _ (by decide) (by decide) (by decide)) (off _ (by decide) (by decide) (by decide)) hI.k, fun x x0 x1 => ?_, Iw_c (off _ (by decide) (by decide) (by decide)) (off _ (by decide) (by decide) (by decide)) hI.w, fun x i x0 x1 i0 i1 => ?_, Ig_c (off _ (by decide) (by decide) (by decide)) (off _ (by decide) (by decide) (by decide)) (off _ (by decide) (by decide) (by decide)) hI.g, Id_c (off _ (by decide) (by decide) (by decide)) hI.d, Iq_c (by rw [off _ (by decide) (by decide) (by decide)]) (by rw [off _ (by decide) (by decide) (by decide)]) (by rw [off _ (by decide) (by decide) (by decide)]) (by rw [off _ (by decide) (by decide) (by decide)]) (by rw [off _ (by decide) (by decide) (by decide)]) (off _ (by decide) (by decide) (by decide)) hI.q, fun j j0 j1 => ?_, Ix_c (by rw [off _ (by decide) (by decide) (by decide)]) (off _ (by decide) (by decide) (by decide)) hI.x⟩
  · have hx := hI.e x x0 x1
    rw [r99, off 94 (by decide) (by decide) (by decide), off 95 (by decide) (by decide) (by decide), off 96 (by decide) (by decide) (by decide), off 98 (by decide) (by decide) (by decide), off 101 (by decide) (by decide) (by decide), off 102 (by decide) (by decide) (by decide), off 103 (by decide) (by decide) (by decide), off 104 (by decide) (by decide) (by decide), off 106 (by decide) (by decide) (by decide), off 107 (by decide) (by decide) (by decide)]
    split
    · omega
    · exact hx
  · rw [r99] at i1
    by_cases hx : x = e
    · rw [if_pos hx] at i1
      omega
    · rw [if_neg hx] at i1
      rw [off 100 (by decide) (by decide) (by decide)]
      exact hI.p x i x0 x1 i0 i1
  · have hj := hI.t j j0 j1
    rw [r99, r99, r12, off 96 (by decide) (by decide) (by decide), off 111 (by decide) (by decide) (by decide)]
    by_cases hje : j = e % 2
    · rw [if_pos hje]
      rw [hje] at hj ⊢
      by_cases he : e % 2 = e
      · rw [if_pos he, if_neg (by omega)]
        rw [he] at hj ⊢
        omega
      · have he2 : e % 2 + 2 = e := by omega
        rw [if_neg he, if_pos he2]
        rw [he2] at hj
        rw [he2]
        omega
    · rw [if_neg hje, if_neg (by omega), if_neg (by omega)]
      exact hj
theorem iv_brk {σ : Hp} {n m e : Int} (hI : IV σ n m) (h0 : 0 ≤ e) (h1 : e < 4) : IV (F_brk e σ) n m := by
  have hE := hI.e e h0 h1
  have hA := iv_e (a := 94) (v := 2) hI h0 h1 (Or.inl ⟨rfl, by decide, by decide⟩)
  have hB := iv_fin h0 h1 (σ 96 e).toNat _ hA (by rw [wr_a (by decide)]; omega)
  have hC := iv_rc hB h0 h1
  have e9 : F_fin (σ 96 e).toNat e (wr σ 94 e 2) 99 e = σ 99 e := by rw [fin_off (by decide) (by decide) (by decide) (by decide) (by decide) (by decide), wr_a (by decide)]
  rw [e9] at hC
  exact hC
theorem Wk_of {σ : Hp} {n m e i : Int} (hI : IV σ n m) (h0 : 0 ≤ e) (h1 : e < 4) (i0 : 0 ≤ i) (i1 : i < σ 96 e) : Wk σ (7 * (4 * e + i)) ∧ 0 ≤ σ 97 (7 * (4 * e + i)) ∧ σ 97 (7 * (4 * e + i)) ≤ n := by
  have hw := hI.w e i h0 h1 i0 i1
  rw [show 28 * e + 7 * i = 7 * (4 * e + i) by omega] at hw
  obtain ⟨w1, w2, w3, w4, w5, w6, w7⟩ := hw
  exact ⟨⟨by omega, w2, w3, w4, w5, w6⟩, w1.1, w1.2⟩
theorem iv_sw {σ : Hp} {n m e i : Int} (hI : IV σ n m) (hm : m ≤ 99999) (h0 : 0 ≤ e) (h1 : e < 4) (i0 : 0 ≤ i) (i1 : i < σ 96 e) : IV (F_sw e i σ) n (m + 1) := by
  obtain ⟨hw, hn⟩ := Wk_of hI h0 h1 i0 i1
  exact iv_snd hI hm h0 h1 (by decide) (by decide) hn.1 hn.2 (by decide) (by decide) (fun _ => hw)
theorem iv_sws {n e : Int} (h0 : 0 ≤ e) (h1 : e < 4) : ∀ (k : Nat) (i m : Int) (σ : Hp), IV σ n m → m + k ≤ 100000 → 0 ≤ i → i + k ≤ σ 96 e → IV (F_sws k e i σ) n (m + k)
  | 0, i, m, σ, h, _, _, _ => by
    show IV σ n (m + 0)
    rw [Int.add_zero]
    exact h
  | k + 1, i, m, σ, h, hm, i0, hk => by
    have := iv_sws h0 h1 k (i + 1) (m + 1) (F_sw e i σ) (iv_sw h (by omega) h0 h1 i0 (by omega)) (by omega) (by omega) (by unfold F_sw; rw [snd_off (by decide) (by decide)]; omega)
    rw [show m + ((k + 1 : Nat) : Int) = m + 1 + k by omega]
    exact this
theorem iv_agn {σ : Hp} {n m e : Int} (hI : IV σ n m) (hm : m ≤ 99990) (h0 : 0 ≤ e) (h1 : e < 4) (ho : 1 ≤ σ 96 e) : IV (F_agn e σ) n (m + 4) := by
  have hN := hI.n
  have hE := hI.e e h0 h1
  unfold F_agn
  by_cases hf : σ 101 e + 1 = 4
  · rw [if_pos hf]
    -- the tries' number itself is out of its bounds for a moment, and is 0 behind what is told
    have hz : F_old e 3 0 (wr σ 101 e (σ 101 e + 1)) = F_old e 3 0 σ := by
      funext c j
      by_cases hc : c = 101
      · subst hc
        rw [old_101v, old_101v]
        split
        · rfl
        · rename_i q; exact wr_k q
      · have hr : ∀ a, a ≠ 101 → wr σ 101 e (σ 101 e + 1) a = σ a := fun a q => wr_off q
        unfold F_old F_tells T0
        by_cases h102 : c = 102
        · subst h102
          rw [wr_v, wr_v]
          split
          · rfl
          · simp only [wr_a, ne_eq, Int.reduceEq, not_false_eq_true, cpx_off, hr]
        · rw [wr_a h102, wr_a h102, wr_a hc, wr_a hc]
          simp only [wr_a, ne_eq, Int.reduceEq, not_false_eq_true, hr]
          unfold cpx
          split
          · simp only [wr_a, ne_eq, Int.reduceEq, not_false_eq_true, hr]
          · unfold wr
            simp only [hc, false_and, if_false]
    rw [hz]
    exact (iv_brk (iv_old hI h0 h1 ho) h0 h1).up (Int.le_refl _) (by omega) (by omega) (by omega)
  · rw [if_neg hf]
    have hA := iv_e (a := 101) (v := σ 101 e + 1) hI h0 h1 (Or.inr (Or.inr (Or.inl ⟨rfl, by omega, by omega⟩)))
    have := iv_sws h0 h1 (σ 96 e).toNat 0 m _ hA (by omega) (Int.le_refl 0) (by rw [wr_a (by decide)]; omega)
    exact this.up (Int.le_refl _) (by omega) (by omega) (by omega)
