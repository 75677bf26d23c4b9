/-! the class: what is told is done -/
/-- alike in what is read -/
def PE (m : Int) (σ τ : Hp) : Prop := (τ 114 = σ 114 ∧ τ 116 = σ 116) ∧ (τ 89 31 = σ 89 31 ∧ τ 89 32 = σ 89 32 ∧ τ 89 33 = σ 89 33) ∧ ∀ k, 0 ≤ k → k < m → τ 115 k = σ 115 k
theorem PE.dn {m m' : Int} {σ τ : Hp} (h : PE m σ τ) (hm : m' ≤ m) : PE m' σ τ := ⟨h.1, h.2.1, fun k k0 k1 => h.2.2 k k0 (by omega)⟩
theorem pe_next {m : Int} {σ τ : Hp} (h : PE m σ τ) : PE m (F_next σ) (F_next τ) := by
  obtain ⟨⟨a1, a2⟩, ⟨b1, b2, b3⟩, c⟩ := h
  refine ⟨⟨?_, ?_⟩, ⟨?_, ?_, ?_⟩, fun k k0 k1 => ?_⟩
  · rw [next_off (by decide), next_off (by decide)]; exact a1
  · rw [next_off (by decide), next_off (by decide)]; exact a2
  · rw [next_89 (by decide) (by decide), next_89 (by decide) (by decide)]; exact b1
  · rw [next_32, next_32, a1, b1, b3]
  · rw [next_33, next_33, a1, b1, b3]
  · rw [next_off (by decide), next_off (by decide)]; exact c k k0 k1
theorem pe_wd {m : Int} {σ τ : Hp} (h : PE m σ τ) : wdH τ = wdH σ := by
  obtain ⟨⟨a1, a2⟩, ⟨b1, b2, b3⟩, c⟩ := h
  unfold wdH
  rw [a1, a2, b2, b3]
theorem pe_rd {m lo hi : Int} {σ τ : Hp} (m0 : 0 ≤ m) (h : PE m σ τ) : (M_rd m lo hi τ).1 = (M_rd m lo hi σ).1 ∧ PE m (M_rd m lo hi σ).2 (M_rd m lo hi τ).2 ∧ (¬ (M_rd m lo hi σ).1 = 0 → PE (m + 1) (M_rd m lo hi σ).2 (M_rd m lo hi τ).2) := by
  have h2 := h
  obtain ⟨⟨a1, a2⟩, ⟨b1, b2, b3⟩, c⟩ := h
  have en : nmH τ = nmH σ := by
    unfold nmH
    rw [a1, b2, b3]
  have pn : PE (m + 1) (F_next (wr σ 115 m (nmH σ))) (F_next (wr τ 115 m (nmH σ))) := by
    refine pe_next ⟨⟨by rw [wr_off (by decide), wr_off (by decide)]; exact a1, by rw [wr_off (by decide), wr_off (by decide)]; exact a2⟩, ⟨by rw [wr_a (by decide), wr_a (by decide)]; exact b1, by rw [wr_a (by decide), wr_a (by decide)]; exact b2, by rw [wr_a (by decide), wr_a (by decide)]; exact b3⟩, fun k k0 k1 => ?_⟩
    by_cases hk : k = m
    · rw [hk, wr_e, wr_e]
    · rw [wr_k hk, wr_k hk]
      exact c k k0 (by omega)
  unfold M_rd
  rw [a1, b1, b2, b3, en]
  (repeat' split)
  · exact ⟨rfl, h2, fun z => absurd rfl z⟩
  · exact ⟨rfl, h2, fun z => absurd rfl z⟩
  · exact ⟨rfl, h2, fun z => absurd rfl z⟩
  · exact ⟨rfl, h2, fun z => absurd rfl z⟩
  · exact ⟨rfl, pn.dn (by omega), fun _ => pn⟩
def SQ : Int → List (Int × Int × (Hp → Int)) → Prop
  | _, [] => True
  | m, x :: t => x.1 = m ∧ (∀ s s' : Hp, (∀ k, 0 ≤ k → k < m → s' 115 k = s 115 k) → x.2.2 s' = x.2.2 s) ∧ SQ (m + 1) t
theorem pe_mc : ∀ (l : List (Int × Int × (Hp → Int))) (m : Int) (σ τ : Hp), 0 ≤ m → SQ m l → PE m σ τ → (M_c l τ).1 = (M_c l σ).1 ∧ PE 0 (M_c l σ).2 (M_c l τ).2
  | [], m, σ, τ, m0, _, h => ⟨rfl, h.dn m0⟩
  | x :: t, m, σ, τ, m0, hS, h => by
    obtain ⟨k, lo, f⟩ := x
    obtain ⟨s1, s2, s3⟩ := hS
    have s1 : k = m := s1
    subst s1
    have ef : f τ = f σ := s2 σ τ h.2.2
    obtain ⟨r1, r2, r3⟩ := pe_rd (lo := lo) (hi := f σ) m0 h
    have e1 : M_c ((k, lo, f) :: t) σ = if (M_rd k lo (f σ) σ).1 = 0 then (0, (M_rd k lo (f σ) σ).2) else M_c t (M_rd k lo (f σ) σ).2 := rfl
    have e2 : M_c ((k, lo, f) :: t) τ = if (M_rd k lo (f τ) τ).1 = 0 then (0, (M_rd k lo (f τ) τ).2) else M_c t (M_rd k lo (f τ) τ).2 := rfl
    rw [e1, e2, ef, r1]
    by_cases hz : (M_rd k lo (f σ) σ).1 = 0
    · rw [if_pos hz, if_pos hz]
      exact ⟨rfl, r2.dn m0⟩
    · rw [if_neg hz, if_neg hz]
      exact pe_mc t (k + 1) _ _ (by omega) s3 (r3 hz)
theorem sq_spc {w : Int} : SQ 0 (spc w) := by
  unfold spc
  (repeat' split)
  · trivial
  · exact ⟨rfl, fun _ _ _ => rfl, rfl, fun _ _ _ => rfl, rfl, fun _ _ _ => rfl, rfl, fun s s' h => by show 12 - s' 115 2 = 12 - s 115 2; rw [h 2 (by decide) (by decide)], rfl, fun _ _ _ => rfl, trivial⟩
  · exact ⟨rfl, fun _ _ _ => rfl, rfl, fun _ _ _ => rfl, rfl, fun _ _ _ => rfl, trivial⟩
  · exact ⟨rfl, fun _ _ _ => rfl, rfl, fun _ _ _ => rfl, trivial⟩
  · exact ⟨rfl, fun _ _ _ => rfl, rfl, fun _ _ _ => rfl, rfl, fun _ _ _ => rfl, trivial⟩
  · exact ⟨rfl, fun _ _ _ => rfl, trivial⟩
theorem pe_rc {σ τ : Hp} (h : PE 0 σ τ) : (M_rc τ).1 = (M_rc σ).1 ∧ PE 0 (M_rc σ).2 (M_rc τ).2 := by
  unfold M_rc
  rw [pe_wd h]
  split
  · exact ⟨rfl, h⟩
  · exact pe_mc _ 0 _ _ (by decide) sq_spc (pe_next h)
theorem PE.r {σ τ υ : Hp} (h : PE 0 σ τ) (h1 : υ 114 = τ 114) (h2 : υ 116 = τ 116) (h3 : ∀ k, 31 ≤ k → k ≤ 33 → υ 89 k = τ 89 k) : PE 0 σ υ := ⟨⟨h1.trans h.1.1, h2.trans h.1.2⟩, ⟨(h3 31 (by decide) (by decide)).trans h.2.1.1, (h3 32 (by decide) (by decide)).trans h.2.1.2.1, (h3 33 (by decide) (by decide)).trans h.2.1.2.2⟩, fun k k0 k1 => by omega⟩
theorem PE.l {σ τ υ : Hp} (h : PE 0 σ τ) (h1 : υ 114 = σ 114) (h2 : υ 116 = σ 116) (h3 : ∀ k, 31 ≤ k → k ≤ 33 → υ 89 k = σ 89 k) : PE 0 υ τ := ⟨⟨h.1.1.trans h1.symm, h.1.2.trans h2.symm⟩, ⟨h.2.1.1.trans (h3 31 (by decide) (by decide)).symm, h.2.1.2.1.trans (h3 32 (by decide) (by decide)).symm, h.2.1.2.2.trans (h3 33 (by decide) (by decide)).symm⟩, fun k k0 k1 => by omega⟩
/-- doing or not: alike in what is read -/
theorem pe_cl {σ τ : Hp} (h : PE 0 σ τ) : (M_cl τ).1 = (M_cl σ).1 ∧ PE 0 (M_cl σ).2 (M_cl τ).2 := by
  obtain ⟨r1, r2⟩ := pe_rc h
  unfold M_cl
  rw [r1]
  by_cases hz : (M_rc σ).1 = 0
  · rw [if_pos hz, if_pos hz]
    exact ⟨rfl, r2⟩
  · rw [if_neg hz, if_neg hz]
    (repeat' split)
    · exact ⟨rfl, r2⟩
    · exact ⟨rfl, r2.l (does_off (by decide)) (does_off (by decide)) (fun k k0 k1 => does_89 k0)⟩
    · exact ⟨rfl, r2.r (does_off (by decide)) (does_off (by decide)) (fun k k0 k1 => does_89 k0)⟩
    · exact ⟨rfl, (r2.r (does_off (by decide)) (does_off (by decide)) (fun k k0 k1 => does_89 k0)).l (does_off (by decide)) (does_off (by decide)) (fun k k0 k1 => does_89 k0)⟩
theorem pe_ra {n m n' m' : Int} : ∀ (k : Nat) (i : Int) (σ τ : Hp), IV σ n m → Tx σ → IV τ n' m' → Tx τ → PE 0 σ τ → τ 89 34 = σ 89 34 → (F_ra k (i, τ)).1 = (F_ra k (i, σ)).1 ∧ (F_ra k (i, τ)).2 89 34 = (F_ra k (i, σ)).2 89 34
  | 0, i, σ, τ, _, _, _, _, h, hc => ⟨rfl, hc⟩
  | k + 1, i, σ, τ, hI, hX, hJ, hY, h, hc => by
    have h2 := h
    obtain ⟨⟨a1, a2⟩, ⟨b1, b2, b3⟩, c⟩ := h
    have e1 : F_ra (k + 1) (i, σ) = if i = 0 then (i, σ) else if σ 89 31 ≤ σ 89 32 then (i, σ) else if 24 ≤ σ 89 34 ∨ ¬ σ 114 (σ 89 32) = 59 then (0, σ) else F_ra k ((M_cl (F_next σ)).1, wr (M_cl (F_next σ)).2 89 34 ((M_cl (F_next σ)).2 89 34 + 1)) := rfl
    have e2 : F_ra (k + 1) (i, τ) = if i = 0 then (i, τ) else if τ 89 31 ≤ τ 89 32 then (i, τ) else if 24 ≤ τ 89 34 ∨ ¬ τ 114 (τ 89 32) = 59 then (0, τ) else F_ra k ((M_cl (F_next τ)).1, wr (M_cl (F_next τ)).2 89 34 ((M_cl (F_next τ)).2 89 34 + 1)) := rfl
    rw [e1, e2, a1, b1, b2, hc]
    obtain ⟨d1, d2, d3, d4, d5⟩ := cl_st (iv_next hI) hX.nx
    obtain ⟨f1, f2, f3, f4, f5⟩ := cl_st (iv_next hJ) hY.nx
    obtain ⟨p1, p2⟩ := pe_cl (pe_next h2)
    have hX3 : Tx (wr (M_cl (F_next σ)).2 89 34 ((M_cl (F_next σ)).2 89 34 + 1)) := Tx_c (fun k k0 k1 => wr_k (by omega)) (wr_off (by decide)) d2
    have hY3 : Tx (wr (M_cl (F_next τ)).2 89 34 ((M_cl (F_next τ)).2 89 34 + 1)) := Tx_c (fun k k0 k1 => wr_k (by omega)) (wr_off (by decide)) f2
    by_cases q1 : i = 0
    · rw [if_pos q1, if_pos q1]
      exact ⟨rfl, hc⟩
    · rw [if_neg q1, if_neg q1]
      by_cases q2 : σ 89 31 ≤ σ 89 32
      · rw [if_pos q2, if_pos q2]
        exact ⟨rfl, hc⟩
      · rw [if_neg q2, if_neg q2]
        by_cases q3 : 24 ≤ σ 89 34 ∨ ¬ σ 114 (σ 89 32) = 59
        · rw [if_pos q3, if_pos q3]
          exact ⟨rfl, hc⟩
        · rw [if_neg q3, if_neg q3, p1]
          refine pe_ra k _ _ _ (iv_sc d1 (by omega)) hX3 (iv_sc f1 (by omega)) hY3 ((p2.r (wr_off (by decide)) (wr_off (by decide)) (fun k k0 k1 => wr_k (by omega))).l (wr_off (by decide)) (wr_off (by decide)) (fun k k0 k1 => wr_k (by omega))) ?_
          rw [wr_e, wr_e, d3, f3, next_89 (by decide) (by decide), next_89 (by decide) (by decide), hc]
theorem pe_beg {σ τ : Hp} {d d' : Int} (h1 : τ 114 = σ 114) (h2 : τ 116 = σ 116) (h3 : τ 89 31 = σ 89 31) : PE 0 (F_beg d σ) (F_beg d' τ) := by
  have e31 : ∀ (σ : Hp) (d : Int), wr (wr (wr σ 89 35 d) 89 33 0) 89 34 1 89 31 = σ 89 31 := fun σ d => by simp (disch := omega) only [wr_k]
  have e33 : ∀ (σ : Hp) (d : Int), wr (wr (wr σ 89 35 d) 89 33 0) 89 34 1 89 33 = 0 := fun σ d => by simp (disch := omega) only [wr_k, wr_e]
  have e14 : ∀ (σ : Hp) (d : Int), wr (wr (wr σ 89 35 d) 89 33 0) 89 34 1 114 = σ 114 := fun σ d => by simp (disch := omega) only [wr_off]
  have e16 : ∀ (σ : Hp) (d : Int), wr (wr (wr σ 89 35 d) 89 33 0) 89 34 1 116 = σ 116 := fun σ d => by simp (disch := omega) only [wr_off]
  unfold F_beg
  refine ⟨⟨?_, ?_⟩, ⟨?_, ?_, ?_⟩, fun k k0 k1 => by omega⟩
  · rw [next_off (by decide), next_off (by decide), e14, e14]; exact h1
  · rw [next_off (by decide), next_off (by decide), e16, e16]; exact h2
  · rw [next_89 (by decide) (by decide), next_89 (by decide) (by decide), e31, e31]; exact h3
  · rw [next_32, next_32, e14, e14, e31, e31, e33, e33, h1, h3]
  · rw [next_33, next_33, e14, e14, e31, e31, e33, e33, h1, h3]
/-- the second reading goes as the first -/
theorem pe_all {σ : Hp} {n m : Int} (hI : IV σ n m) : (M_all 1 (M_all 0 σ).2).1 = (M_all 0 σ).1 ∧ (M_all 1 (M_all 0 σ).2).2 89 34 = (M_all 0 σ).2 89 34 := by
  obtain ⟨a1, a2, a3, a4⟩ := all_st (d := 0) hI
  have pa := pa_all hI
  obtain ⟨b1, b2, b3, b4, b5, b6⟩ := beg_st (d := 0) hI
  obtain ⟨d1, d2, d3, d4, d5⟩ := cl_st b1 b2
  obtain ⟨e1, e2, e3, e4, e5, e6⟩ := beg_st (d := 1) a1
  obtain ⟨f1, f2, f3, f4, f5⟩ := cl_st e1 e2
  obtain ⟨p1, p2⟩ := pe_cl (pe_beg (d := 0) (d' := 1) (pa.1 114 (by decide) (by decide)) (pa.1 116 (by decide) (by decide)) a4)
  have := pe_ra 24 (M_cl (F_beg 0 σ)).1 (M_cl (F_beg 0 σ)).2 (M_cl (F_beg 1 (M_all 0 σ).2)).2 d1 d2 f1 f2 p2 (by rw [d3, b3, f3, e3])
  rw [← p1] at this
  rw [p1] at this
  have q : F_ra 24 ((M_cl (F_beg 0 σ)).1, (M_cl (F_beg 1 (M_all 0 σ).2)).2) = M_all 1 (M_all 0 σ).2 := by
    rw [← p1]
    rfl
  rw [q] at this
  exact this
theorem ra_ge {n m : Int} : ∀ (k : Nat) (s : Int × Hp), IV s.2 n m → Tx s.2 → s.2 89 34 ≤ (F_ra k s).2 89 34
  | 0, s, _, _ => Int.le_refl _
  | k + 1, s, hI, hX => by
    unfold F_ra
    split
    · exact Int.le_refl _
    · split
      · exact Int.le_refl _
      · split
        · exact Int.le_refl _
        · obtain ⟨d1, d2, d3, d4, d5⟩ := cl_st (iv_next hI) hX.nx
          have hX3 : Tx (wr (M_cl (F_next s.2)).2 89 34 ((M_cl (F_next s.2)).2 89 34 + 1)) := Tx_c (fun k k0 k1 => wr_k (by omega)) (wr_off (by decide)) d2
          have := ra_ge k ((M_cl (F_next s.2)).1, wr (M_cl (F_next s.2)).2 89 34 ((M_cl (F_next s.2)).2 89 34 + 1)) (iv_sc d1 (by omega)) hX3
          dsimp only at this
          rw [wr_e, d3, next_89 (by decide) (by decide)] at this
          rw [d3, next_89 (by decide) (by decide)]
          omega
section KH
variable {G : GG} {b : Nat × Nat} {Q : Option VV → Hp → Prop}
set_option maxHeartbeats 4000000 in
theorem K_one {ρ s h : Hp} {n m m' C i : Int} (hC : CR ρ n s h) (hI : IV s m m') (hX : Tx s) (hL : LA s h) (hd : s 89 35 = 1) (hz : ¬ (M_cl s).1 = 0) (hk : ∀ ρ' g, (∀ a, 89 ≤ a → a ≤ 117 → ρ' a = ρ a) → CR ρ' n (M_cl s).2 g → g 32 4 = (M_cl s).2 89 33 → AW G mm_X9_tell b 72 [(0, vR 1), (1, vI C), (2, vI i)] [] g Q) : Runs G mm_X6_readClause [vR 32] h (fun r h' => AW G mm_X9_tell b 44 [(0, vR 1), (1, vI C), (2, vI i)] (r.toList ++ []) h' Q) := by
  obtain ⟨a1, a2, a3⟩ := rc_st hI hX
  obtain ⟨t4, t6⟩ := rcl_in (σ := s)
  have hw := wdH_in (σ := s)
  have hrc : ¬ (M_rc s).1 = 0 := fun z => by
    unfold M_cl at hz
    rw [if_pos z] at hz
    exact hz rfl
  have e : (M_cl s).2 = F_does (wdH s) (M_rc s).2 := by
    unfold M_cl
    rw [if_neg hrc, if_neg (by rw [a3 35 (by decide) (by decide), hd]; decide)]
  rw [e] at hk
  obtain ⟨w1, N⟩ := rc_nb hrc
  refine K_rcl (TC_of hC hI) hI.s hX hL ⟨fun _ g b1 b2 b3 b4 b5 => ?_, fun z => absurd z hrc⟩
  have hC1 := cr_txt hC b1 (pa_rc (σ := s))
  have hT1 := hC1.T
  refine sg_X9_tell_44 ⟨fun q => absurd q (by decide), fun _ => ⟨hT1.1.1, ?_⟩⟩
  rw [hT1.1.2.2.2.2, hT1.2.2.2.2.2.1.2.2.1, b3]
  refine ⟨hT1.2.2.2.2.2.1.1, ?_⟩
  refine K_does hC1 a1 (by omega) hw.2 N b5 (fun g2 hg2 => ?_)
  have hT2 := hg2.T
  have i2 := iv_does a1 (by omega) hw.2 N
  obtain ⟨l1, l2, l3, l4⟩ := b2
  have o4 : g2 32 4 = g 32 4 := by
    rw [hg2.o.1.2.2 4 (by decide)]
    rfl
  have tc2 : TC ((M_rc s).2 114) ((M_rc s).2 89 31) g2 := by
    have := TC_of hg2 i2
    rw [does_off (by decide), does_89 (by decide)] at this
    exact this
  refine sg_X9_tell_65 ⟨hT2.1.1, ?_⟩
  rw [hT2.1.2.2.2.2]
  refine ⟨hT2.2.2.2.2.2.1.1, K_next tc2 o4 l3 l4 (fun g3 tw g33 g34 => ?_)⟩
  rw [← l1] at g33 g34
  rw [← l2] at g34
  have hC3 := cr_txt hg2 tw.1 PA.refl
  refine hk _ g3 (fun a a0 a1 => ?_) hC3 ?_
  · rw [rt_o (by omega) (by omega), rt_o (by omega) (by omega)]
  · rw [g34, does_89 (by decide)]
set_option maxHeartbeats 4000000 in
theorem Lc_tell {ρ0 : Hp} {n m m' C : Int} : ∀ (k : Nat) (i : Int) (ρ s h : Hp), CR ρ n s h → (∀ a, 89 ≤ a → a ≤ 117 → ρ a = ρ0 a) → IV s m m' → Tx s → s 89 35 = 1 → s 89 34 = i → 0 ≤ i → i + k ≤ 100 → h 32 4 = s 89 33 → ¬ (F_ra k (1, s)).1 = 0 → C = (F_ra k (1, s)).2 89 34 → (∀ ρ' g, (∀ a, 89 ≤ a → a ≤ 117 → ρ' a = ρ0 a) → CR ρ' n (wr (F_ra k (1, s)).2 89 31 0) g → Q (some (vI C)) g) → AW G mm_X9_tell b 32 [(0, vR 1), (1, vI C), (2, vI i)] [] h Q := by
  intro k
  induction k with
  | zero =>
    intro i ρ s h hC hρ hI hX hd hi i0 ik h4 hz hCC hk
    have hT := hC.T
    have hCC : C = s 89 34 := hCC
    refine sg_X9_tell_32 ⟨fun _ => ⟨hT.1.1, ?_⟩, fun q => by omega⟩
    rw [hT.1.2.2.2.2]
    simp only [forall_eq]
    exact ⟨hT.2.2.2.2.2.1.1, hk ρ _ hρ (cr_len0 hC)⟩
  | succ k ih =>
    intro i ρ s h hC hρ hI hX hd hi i0 ik h4 hz hCC hk
    have hT := hC.T
    have hX2 := hX
    obtain ⟨⟨x0, x1, x2, x3⟩, x4⟩ := hX
    have e1 : F_ra (k + 1) (1, s) = if (1 : Int) = 0 then (1, s) else if s 89 31 ≤ s 89 32 then (1, s) else if 24 ≤ s 89 34 ∨ ¬ s 114 (s 89 32) = 59 then (0, s) else F_ra k ((M_cl (F_next s)).1, wr (M_cl (F_next s)).2 89 34 ((M_cl (F_next s)).2 89 34 + 1)) := rfl
    rw [e1, if_neg (by decide)] at hz hCC hk
    by_cases q2 : s 89 31 ≤ s 89 32
    · rw [if_pos q2] at hCC hk
      have hCC : C = s 89 34 := hCC
      refine sg_X9_tell_32 ⟨fun _ => ⟨hT.1.1, ?_⟩, fun q => by omega⟩
      rw [hT.1.2.2.2.2]
      simp only [forall_eq]
      exact ⟨hT.2.2.2.2.2.1.1, hk ρ _ hρ (cr_len0 hC)⟩
    · rw [if_neg q2] at hz hCC hk
      by_cases q3 : 24 ≤ s 89 34 ∨ ¬ s 114 (s 89 32) = 59
      · rw [if_pos q3] at hz
        exact absurd rfl hz
      · rw [if_neg q3] at hz hCC hk
        obtain ⟨d1, d2, d3, d4, d5⟩ := cl_st (iv_next hI) hX2.nx
        have hX3 : Tx (wr (M_cl (F_next s)).2 89 34 ((M_cl (F_next s)).2 89 34 + 1)) := Tx_c (fun k k0 k1 => wr_k (by omega)) (wr_off (by decide)) d2
        have m1 : (M_cl (F_next s)).1 = 1 := by
          rcases cl_or (σ := F_next s) with z | z
          · rw [z, ra_0] at hz
            exact absurd rfl hz
          · exact z
        have d34 : (M_cl (F_next s)).2 89 34 = i := by rw [d3, next_89 (by decide) (by decide), hi]
        have ge := ra_ge k ((M_cl (F_next s)).1, wr (M_cl (F_next s)).2 89 34 ((M_cl (F_next s)).2 89 34 + 1)) (iv_sc d1 (by omega)) hX3
        dsimp only at ge
        rw [wr_e] at ge
        rw [m1, d34] at hz hCC hk ge
        rw [d34] at hX3
        have n31 : F_next s 89 31 = s 89 31 := next_89 (by decide) (by decide)
        have n114 : F_next s 114 = s 114 := next_off (by decide)
        refine sg_X9_tell_32 ⟨fun q => by omega, fun _ => ⟨hT.1.1, ?_⟩⟩
        rw [hT.1.2.2.2.2]
        refine ⟨hT.2.2.2.2.2.1.1, ?_⟩
        refine K_one (ρ := rt ρ h) (s := F_next s) (cr_txt hC TV.refl pa_next) (iv_next hI) hX2.nx ?_ (by rw [next_89 (by decide) (by decide)]; exact hd) (by rw [m1]; decide) (fun ρ' g hρ' hg g4 => ?_)
        · rw [LA, next_32, next_33, n31, n114, h4]
          exact ⟨rfl, rfl, by omega, by omega⟩
        · refine sg_X9_tell_72 ⟨by unfold inI; omega, ?_⟩
          refine ih (i + 1) (rt ρ' g) (wr (M_cl (F_next s)).2 89 34 (i + 1)) g (cr_txt hg TV.refl (pa_89 (by decide))) (fun a a0 a1 => ?_) (iv_sc d1 (by omega)) hX3 ?_ wr_e (by omega) (by omega) (by rw [wr_k (by decide)]; exact g4) hz hCC hk
          · rw [rt_o (by omega) (by omega), hρ' a a0 a1, rt_o (by omega) (by omega)]
            exact hρ a a0 a1
          · rw [wr_k (by decide), d4, next_89 (by decide) (by decide)]
            exact hd
set_option maxHeartbeats 4000000 in
theorem K_tell {ρ σ h : Hp} {n m m' : Int} (hC : CR ρ n σ h) (hI : IV σ m m') (hk : PQ ρ n Q (M_tell σ)) : Runs G mm_X9_tell [vR 1] h Q := by
  have hT := hC.T
  obtain ⟨a1, a2, a3, a4⟩ := all_st (d := 0) hI
  obtain ⟨y0, y1, y2⟩ := a1.x
  unfold M_tell at hk
  refine rn_X9_tell ⟨hT.1.1, ?_⟩
  rw [hT.1.2.2.2.2]
  refine ⟨hT.2.2.2.2.2.1.1, K_ff (TC_of hC hI) hI (fun z g tv => ?_) (fun z g tv g6 => ?_)⟩
  · rw [if_pos z] at hk
    have x0 := a2.1.1
    refine sg_X9_tell_7 ⟨fun q => by omega, fun _ => ?_⟩
    exact hk (rt ρ g) g (fun a a0 a1 => rt_o (by omega) (by omega)) ((cr_txt hC tv (pa_all hI)).up (by omega))
  · rw [if_neg z] at hk
    obtain ⟨p1, p2⟩ := pe_all hI
    have hC1 := cr_txt hC tv (pa_all hI)
    have hT1 := hC1.T
    have tv2 : TV g (wr (wr g 32 3 0) 32 4 0) := (tv_32 (by decide)).trans (tv_32 (by decide))
    have z2 : ¬ (M_all 1 (M_all 0 σ).2).1 = 0 := by rw [p1]; exact z
    rw [← p2] at g6
    generalize (M_all 0 σ).2 = A at *
    obtain ⟨b1, b2, b3, b4, b5, b6⟩ := beg_st (d := 1) a1
    obtain ⟨d1, d2, d3, d4, d5⟩ := cl_st b1 b2
    have m1 : (M_cl (F_beg 1 A)).1 = 1 := by
      rcases cl_or (σ := F_beg 1 A) with q | q
      · have e : M_all 1 A = F_ra 24 ((M_cl (F_beg 1 A)).1, (M_cl (F_beg 1 A)).2) := rfl
        rw [e, q, ra_0] at z2
        exact absurd rfl z2
      · exact q
    have e : M_all 1 A = F_ra 24 (1, (M_cl (F_beg 1 A)).2) := by
      have e0 : M_all 1 A = F_ra 24 ((M_cl (F_beg 1 A)).1, (M_cl (F_beg 1 A)).2) := rfl
      rw [e0, m1]
    rw [e] at z2 g6 hk
    have ge := ra_ge 24 (1, (M_cl (F_beg 1 A)).2) d1 d2
    dsimp only at ge
    rw [d3, b3] at ge
    refine sg_X9_tell_7 ⟨fun _ => ⟨hT1.1.1, ?_⟩, fun q => absurd rfl q⟩
    rw [hT1.1.2.2.2.2, g6]
    refine ⟨hT1.2.2.2.2.2.1.1, rn_X6_rewind ⟨hT1.2.2.2.2.2.1.1, ?_⟩⟩
    simp only [forall_eq]
    have hC2 := cr_txt hC1 tv2 (pa_beg (d := 1))
    have hT2 := hC2.T
    refine sg_X9_tell_30 ?_
    refine sg_X9_tell_32 ⟨fun q => by omega, fun _ => ⟨hT2.1.1, ?_⟩⟩
    rw [hT2.1.2.2.2.2]
    refine ⟨hT2.2.2.2.2.2.1.1, ?_⟩
    refine K_one hC2 b1 b2 ?_ b4 (by rw [m1]; decide) (fun ρ' g2 hρ' hg2 g24 => ?_)
    · rw [LA, b5, b6, wr_e]
      unfold F_beg
      rw [next_32, next_33]
      have e31 : wr (wr (wr A 89 35 1) 89 33 0) 89 34 1 89 31 = A 89 31 := by simp (disch := omega) only [wr_k]
      have e33 : wr (wr (wr A 89 35 1) 89 33 0) 89 34 1 89 33 = 0 := by simp (disch := omega) only [wr_k, wr_e]
      have e114 : wr (wr (wr A 89 35 1) 89 33 0) 89 34 1 114 = A 114 := by simp (disch := omega) only [wr_off]
      rw [e31, e33, e114]
      exact ⟨rfl, rfl, by decide, y0⟩
    · refine sg_X9_tell_72 ⟨by unfold inI; omega, ?_⟩
      refine Lc_tell (ρ0 := ρ) 24 1 ρ' (M_cl (F_beg 1 A)).2 g2 hg2 (fun a a0 a1 => ?_) d1 d2 (by rw [d4, b4]) (by rw [d3, b3]) (by decide) (by decide) g24 z2 rfl (fun ρ2 g3 hρ2 hg3 => hk ρ2 g3 hρ2 (hg3.up (by omega)))
      rw [hρ' a a0 a1, rt_o (by omega) (by omega), rt_o (by omega) (by omega)]
end KH
