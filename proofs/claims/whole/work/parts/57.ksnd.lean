/-! the class: packets are placed, answers, requests -/
section K3
variable {G : GG} {Q : Option VV → Hp → Prop} {ρ σ h : Hp} {n : Int}
theorem K_other {e : Int} (h0 : 0 ≤ e) (h1 : e < 4) (hk : Q (some (vI (iXor e 1))) h) : Runs G mm_X9_otherEnd [vI e] h Q := by
  rw [ixor1 h0 h1] at hk
  refine rn_X9_otherEnd ⟨h0, fun q => ⟨by unfold inI; omega, ?_⟩, fun q => ⟨by unfold inI; omega, ?_⟩⟩
  · rw [if_neg q] at hk
    exact hk
  · rw [if_pos q] at hk
    exact hk
set_option maxHeartbeats 4000000 in
theorem K_place {t m m' : Int} (hC : CR ρ n σ h) (hI : IV σ m m') (t0 : 0 ≤ t) (t1 : t < 4) (hkF : σ 89 21 = 24 → Q (some (vR 0)) (wr h 4 4 (σ 89 29 + 1))) (hkP : ¬ σ 89 21 = 24 → Q (some (vR (h 5 (σ 89 21)))) (wr (wr (wr h 4 3 (σ 89 21 + 1)) (h 5 (σ 89 21)) 0 t) (h 5 (σ 89 21)) 1 (σ 89 19 + σ 108 (t / 2)))) : Runs G mm_X7_placeFor [vR 4, vI t] h Q := by
  have hT := hC.T
  obtain ⟨⟨b1, b1', b1''⟩, b2, b3, b4, b5, b6⟩ := hC.p
  obtain ⟨q1, q2, q3, q4, q5, -, -⟩ := hI.q
  have hd := hI.d (t / 2) (by omega) (by omega)
  have hN := hI.n
  have d7 := b3 (t / 2) (by omega) (by omega)
  refine rn_X7_placeFor ?_
  simp (disch := omega) only [hT, b1, b1', b1'', true_and, forall_eq, inI]
  refine ⟨fun hl => ⟨by omega, by omega, by omega, ?_, ?_⟩, fun hl => ⟨by omega, hkF (by omega)⟩⟩
  · have := b4 (σ 89 21) (by omega) hl
    exact hT.2.2.2.2.2.2.2.2.2.1 _ this.1 this.2
  · have hp := b4 (σ 89 21) (by omega) hl
    refine rn_X9_lineOf ⟨t0, ?_⟩
    refine sg_X7_placeFor_59 ?_
    simp (disch := omega) only [wr_s, wr_l, wr_a, hT, d7, true_and, forall_eq, inI]
    exact ⟨by omega, by omega, by omega, hkP (by omega)⟩
theorem snd_t1 {e ty nb vl w : Int} : ∀ a, a ≠ 89 → a ≠ 109 → F_snd e ty nb vl w σ a = σ a := fun a h1 h2 => snd_off h2 h1
theorem snd_t2 {e ty nb vl w : Int} (hf : ¬ σ 89 21 = 24) : ∀ k, k ≠ 21 → k ≠ 22 → F_snd e ty nb vl w σ 89 k = σ 89 k := fun k h1 h2 => by
  by_cases h3 : k = 29
  · rw [h3]
    exact snd_l hf
  · exact snd_89 h1 h2 h3
theorem ixor_h {e : Int} (h0 : 0 ≤ e) (h1 : e < 4) : iXor e 1 / 2 = e / 2 := by
  rw [ixor1 h0 h1]
  split <;> omega
set_option maxHeartbeats 4000000 in
theorem K_ans {e ty nb vl m m' : Int} (hC : CR ρ n σ h) (hI : IV σ m m') (h0 : 0 ≤ e) (h1 : e < 4) (ht : ¬ ty = 0) (hk : ∀ g, CR ρ n (F_snd e ty nb vl (-1) σ) g → Q none g) : Runs G mm_X1_answer [vR (49 + 10 * e), vI ty, vI nb, vI vl] h Q := by
  have hT := hC.T
  have hx := ixor_in h0 h1
  refine rn_X1_answer ?_
  simp (disch := omega) only [hT, true_and]
  refine K_other h0 h1 ?_
  refine sg_X1_answer_11 ⟨hT.2.2.2.1.1, ?_⟩
  refine K_place hC hI hx.1 (by omega) (fun hf => ?_) (fun hf => ?_)
  · refine sg_X1_answer_14 ⟨fun _ => hk _ ?_, fun q => absurd rfl q⟩
    rw [snd_x hf]
    exact cr_lost hC
  · obtain ⟨⟨b1, b1', b1''⟩, b2, b3, b4, b5, b6⟩ := hC.p
    have hp := b4 (σ 89 21) (by omega) (by omega)
    refine sg_X1_answer_14 ⟨fun q => by omega, fun _ => ⟨?_, ?_⟩⟩
    · simp (disch := omega) only [wr_s]
      exact hT.2.2.2.2.2.2.2.2.2.1 _ hp.1 hp.2
    · refine rn_X5_beAnswer ⟨?_, ?_⟩
      · simp (disch := omega) only [wr_s]
        exact hT.2.2.2.2.2.2.2.2.2.1 _ hp.1 hp.2
      · simp only [forall_eq]
        refine sg_X1_answer_29 (hk _ ?_)
        refine cr_app hC (by omega) rfl (fun a a1 a2 => ?_) ?_ (fun k k1 => ?_) (fun k k1 => ?_) snd_t1 (snd_t2 hf) (snd_m hf) (fun j hj => snd_p hf hj) ?_
        · rw [wr_off a2, wr_off a2, wr_off a2, wr_off a2, wr_off a2, wr_off a1]
        · simp (disch := omega) only [wr_a, wr_e]
        · simp (disch := omega) only [wr_a, wr_k]
        · simp (disch := omega) only [wr_a, wr_k]
        · rw [PC, snd_0 hf, snd_1 hf, snd_2 hf, snd_8 hf, snd_9 hf]
          refine ⟨?_, ?_, ?_, ?_, ?_, fun q => absurd q ht⟩ <;> simp (disch := omega) only [wr_a, wr_k, wr_e, ixor_h h0 h1]
set_option maxHeartbeats 4000000 in
theorem K_req {e i m m' : Int} (hC : CR ρ n σ h) (hI : IV σ m m') (h0 : 0 ≤ e) (h1 : e < 4) (i0 : 0 ≤ i) (i1 : i < σ 96 e) (hk : ∀ g, CR ρ n (F_sw e i σ) g → (∀ a, 32 ≤ a → a ≤ 88 → g a = h a) → Q none g) : Runs G mm_X1_request [vR (49 + 10 * e), vR (h (50 + 10 * e) i)] h Q := by
  have hT := hC.T
  have hx := ixor_in h0 h1
  obtain ⟨w1, w2, w3, w4⟩ := hC.w e h0 h1
  have wi := w2 i i0 (by omega)
  have ws : h (h (50 + 10 * e) i) (-1) = 9 := hT.2.2.2.2.2.2.2.2.2.2 _ (by omega) (by omega) (by omega)
  have a0 := w4 i 0 i0 i1 (by decide) (by decide)
  have a1 := w4 i 1 i0 i1 (by decide) (by decide)
  have a2 := w4 i 2 i0 i1 (by decide) (by decide)
  have a3 := w4 i 3 i0 i1 (by decide) (by decide)
  have a4 := w4 i 4 i0 i1 (by decide) (by decide)
  have a5 := w4 i 5 i0 i1 (by decide) (by decide)
  refine rn_X1_request ?_
  simp (disch := omega) only [hT, true_and]
  refine K_other h0 h1 ?_
  refine sg_X1_request_11 ⟨hT.2.2.2.1.1, ?_⟩
  unfold F_sw at hk
  refine K_place hC hI hx.1 (by omega) (fun hf => ?_) (fun hf => ?_)
  · refine sg_X1_request_14 ⟨fun _ => hk _ ?_ (fun a a0 a1 => wr_off (by omega)), fun q => absurd rfl q⟩
    rw [snd_x hf]
    exact cr_lost hC
  · obtain ⟨⟨b1, b1', b1''⟩, b2, b3, b4, b5, b6⟩ := hC.p
    have hp := b4 (σ 89 21) (by omega) (by omega)
    have ps := hT.2.2.2.2.2.2.2.2.2.1 _ hp.1 hp.2
    refine sg_X1_request_14 ⟨fun q => by omega, fun _ => ⟨?_, ?_⟩⟩
    · simp (disch := omega) only [wr_s]
      exact ps
    · refine rn_X5_beRequest ?_
      simp (disch := omega) only [forall_eq, wr_s, wr_a, a0, a1, a2, a3, a4, a5, ws, ps, true_and]
      refine sg_X1_request_24 (hk _ ?_ (fun a a0 a1 => by simp (disch := omega) only [wr_off]))
      refine cr_app hC (by omega) rfl (fun a z1 z2 => ?_) ?_ (fun k k1 => ?_) (fun k k1 => ?_) snd_t1 (snd_t2 hf) (snd_m hf) (fun j hj => snd_p hf hj) ?_
      · simp only [wr_off z2, wr_off z1]
      · simp (disch := omega) only [wr_a, wr_e]
      · simp (disch := omega) only [wr_a, wr_k]
      · simp (disch := omega) only [wr_a, wr_k]
      · rw [PC, snd_0 hf, snd_1 hf, snd_2 hf, snd_8 hf, snd_9 hf, snd_i hf (k := 3) (by decide) (by decide), snd_i hf (k := 4) (by decide) (by decide), snd_i hf (k := 5) (by decide) (by decide), snd_i hf (k := 6) (by decide) (by decide), snd_i hf (k := 7) (by decide) (by decide)]
        simp (disch := omega) only [wr_a, wr_k, wr_e, ixor_h h0 h1, sf, if_neg, true_and]
        refine ⟨?_, fun _ => ⟨?_, ?_, ?_, ?_, ?_⟩⟩ <;> congr 1 <;> omega
set_option maxHeartbeats 4000000 in
theorem Lk_sws {e m : Int} {b : Nat × Nat} (h0 : 0 ≤ e) (h1 : e < 4) : ∀ (k : Nat) (i m' : Int) (σ h : Hp), CR ρ n σ h → IV σ m m' → m' + k ≤ 100000 → 0 ≤ i → i + k = σ 96 e → (∀ g, CR ρ n (F_sws k e i σ) g → Q none g) → AW G mm_X1_tryAgain b 39 [(0, vR (49 + 10 * e)), (1, vI i)] [] h Q := by
  intro k
  induction k with
  | zero =>
    intro i m' σ h hC hI hm i0 hi hk
    have hT := hC.T
    have hE := hC.e
    refine sg_X1_tryAgain_39 ?_
    simp (disch := omega) only [hT, hE, true_and]
    exact ⟨fun _ => hk h hC, fun q => by omega⟩
  | succ k ih =>
    intro i m' σ h hC hI hm i0 hi hk
    have hT := hC.T
    have hE := hC.e
    have hw := (hC.w e h0 h1).1
    refine sg_X1_tryAgain_39 ?_
    simp (disch := omega) only [hT, hE, true_and]
    refine ⟨fun q => by omega, fun _ => ⟨by omega, by omega, ?_⟩⟩
    refine K_req hC hI h0 h1 i0 (by omega) ?_
    intro g hg _
    refine sg_X1_tryAgain_57 ⟨by unfold inI; omega, ?_⟩
    refine ih (i + 1) (m' + 1) _ g hg (iv_sw hI (by omega) h0 h1 i0 (by omega)) (by omega) (by omega) ?_ hk
    unfold F_sw
    rw [snd_off (by decide) (by decide)]
    omega
set_option maxHeartbeats 4000000 in
theorem K_agn {e m m' : Int} (hC : CR ρ n σ h) (hI : IV σ m m') (hm : m' ≤ 99990) (h0 : 0 ≤ e) (h1 : e < 4) (ho : 1 ≤ σ 96 e) (hn : n ≤ 990) (hk : ∀ g, CR ρ n (F_agn e σ) g → Q none g) : Runs G mm_X1_tryAgain [vR (49 + 10 * e)] h Q := by
  have hT := hC.T
  have hE := hC.e
  have hJ := hI.e e h0 h1
  unfold F_agn at hk
  refine rn_X1_tryAgain ?_
  have hC2 := cr_sc (v := σ 101 e + 1) (a := 101) (k := 11) hC h0 h1 (by omega)
  have r96 : wr σ 101 e (σ 101 e + 1) 96 e = σ 96 e := wr_a (by decide)
  simp (disch := omega) only [hT, hE, true_and, forall_eq, inI]
  refine ⟨fun _ => ⟨by omega, fun q => ?_, fun q => ⟨by decide, by decide, ?_⟩⟩, fun q => by omega⟩
  · rw [if_neg (by omega)] at hk
    have hI2 : IV (wr σ 101 e (σ 101 e + 1)) m m' := iv_e hI h0 h1 (by omega)
    exact Lk_sws h0 h1 (σ 96 e).toNat 0 m' _ _ hC2 hI2 (by omega) (by decide) (by omega) hk
  · rw [if_pos (by omega)] at hk
    rw [old_w (Or.inl rfl)] at hk
    have hIg := iv_old (r := 3) (v := 0) hI h0 h1 ho
    refine K_oldt (Or.inl rfl) hC2 hI h0 h1 ho (by omega) ?_
    intro g hg
    exact sg_X1_tryAgain_32 ⟨by decide, by decide, hg.T.2.2.2.2.2.2.2.2.1 e h0 h1 |>.2.1, K_brk hg hIg h0 h1 hn (fun g' hg' => sg_X1_tryAgain_36 (hk g' hg'))⟩
end K3
