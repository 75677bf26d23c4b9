/-! the reference: a clause, all clauses, the fault, what is told -/
def M_rc (σ : Hp) : Int × Hp := if wdH σ = -1 then (0, σ) else M_rr (wdH σ) (F_next σ)
def M_cl (σ : Hp) : Int × Hp := if (M_rc σ).1 = 0 then (0, (M_rc σ).2) else if (M_rc σ).2 89 35 = 0 then (1, (M_rc σ).2) else (1, F_does (wdH σ) (M_rc σ).2)
def F_ra : Nat → Int × Hp → Int × Hp
  | 0, s => s
  | k + 1, s => if s.1 = 0 then s else if s.2 89 31 ≤ s.2 89 32 then s else if 24 ≤ s.2 89 34 ∨ ¬ s.2 114 (s.2 89 32) = 59 then (0, s.2) else F_ra k ((M_cl (F_next s.2)).1, wr (M_cl (F_next s.2)).2 89 34 ((M_cl (F_next s.2)).2 89 34 + 1))
def F_beg (d : Int) (σ : Hp) : Hp := F_next (wr (wr (wr σ 89 35 d) 89 33 0) 89 34 1)
def M_all (d : Int) (σ : Hp) : Int × Hp := F_ra 24 (M_cl (F_beg d σ))
def M_fault (σ : Hp) : Int × Hp := (if (M_all 0 σ).1 = 0 then (M_all 0 σ).2 89 32 else -1, (M_all 0 σ).2)
def M_tell (σ : Hp) : Int × Hp := if (M_all 0 σ).1 = 0 then (-1003, (M_all 0 σ).2) else ((M_all 1 (M_all 0 σ).2).2 89 34, wr (M_all 1 (M_all 0 σ).2).2 89 31 0)
theorem mc_cons {x : Int × Int × (Hp → Int)} {t : List (Int × Int × (Hp → Int))} {σ : Hp} (h : ¬ (M_c (x :: t) σ).1 = 0) : ¬ (M_rd x.1 x.2.1 (x.2.2 σ) σ).1 = 0 ∧ M_c (x :: t) σ = M_c t (M_rd x.1 x.2.1 (x.2.2 σ) σ).2 := by
  by_cases hz : (M_rd x.1 x.2.1 (x.2.2 σ) σ).1 = 0
  · unfold M_c at h
    rw [if_pos hz] at h
    exact absurd rfl h
  · refine ⟨hz, ?_⟩
    have e : M_c (x :: t) σ = if (M_rd x.1 x.2.1 (x.2.2 σ) σ).1 = 0 then (0, (M_rd x.1 x.2.1 (x.2.2 σ) σ).2) else M_c t (M_rd x.1 x.2.1 (x.2.2 σ) σ).2 := rfl
    rw [e, if_neg hz]
theorem rd_ok {k lo hi : Int} {σ : Hp} (h : ¬ (M_rd k lo hi σ).1 = 0) : lo ≤ (M_rd k lo hi σ).2 115 k ∧ (M_rd k lo hi σ).2 115 k ≤ hi := rd_nm.resolve_left h
theorem mc_115 {j : Int} : ∀ (l : List (Int × Int × (Hp → Int))) (σ : Hp), (∀ x, x ∈ l → j ≠ x.1) → (M_c l σ).2 115 j = σ 115 j
  | [], _, _ => rfl
  | x :: t, σ, hl => by
    have h0 := hl x (List.mem_cons_self ..)
    unfold M_c
    split
    · exact rd_115 h0
    · rw [mc_115 t _ (fun y hy => hl y (List.mem_cons_of_mem _ hy)), rd_115 h0]
/-- a number read, and kept by what is read behind it -/
theorem mc_hd {k lo : Int} {f : Hp → Int} {t : List (Int × Int × (Hp → Int))} {σ : Hp} (h : ¬ (M_c ((k, lo, f) :: t) σ).1 = 0) (ht : ∀ x, x ∈ t → k ≠ x.1) : (lo ≤ (M_c ((k, lo, f) :: t) σ).2 115 k ∧ (M_c ((k, lo, f) :: t) σ).2 115 k ≤ f σ) ∧ M_c ((k, lo, f) :: t) σ = M_c t (M_rd k lo (f σ) σ).2 ∧ (M_rd k lo (f σ) σ).2 115 k = (M_c ((k, lo, f) :: t) σ).2 115 k := by
  obtain ⟨h1, h2⟩ := mc_cons h
  have r := rd_ok h1
  have e : (M_c ((k, lo, f) :: t) σ).2 115 k = (M_rd k lo (f σ) σ).2 115 k := by
    rw [h2]
    exact mc_115 t _ ht
  rw [e]
  exact ⟨r, h2, rfl⟩
set_option maxHeartbeats 4000000 in
theorem Nb_of {w : Int} {σ : Hp} (w0 : 0 ≤ w) (w1 : w ≤ 5) (h : ¬ (M_rr w σ).1 = 0) : Nb w (M_rr w σ).2 := by
  have D : ∀ {a : Int} {l : List (Int × Int × (Hp → Int))}, (l.all (fun x => decide (a ≠ x.1)) = true) → ∀ x, x ∈ l → a ≠ x.1 := fun hl x hx => of_decide_eq_true (List.all_eq_true.mp hl x hx)
  unfold M_rr at h ⊢
  refine ⟨fun q => ?_, fun q => ?_, fun q => ?_, fun q => ?_, fun q => ?_⟩
  · subst q
    have e : spc 1 = [(0, 0, fun _ => 1), (1, 0, fun _ => 3), (2, 0, fun _ => 11), (3, 1, fun σ => 12 - σ 115 2), (4, 0, fun _ => 7)] := rfl
    rw [e] at h ⊢
    obtain ⟨a1, a2, a3⟩ := mc_hd h (by intro x hx; simp only [List.mem_cons, List.not_mem_nil, or_false] at hx; rcases hx with rfl | rfl | rfl | rfl <;> decide)
    rw [a2] at h a1 ⊢
    obtain ⟨b1, b2, b3⟩ := mc_hd h (by intro x hx; simp only [List.mem_cons, List.not_mem_nil, or_false] at hx; rcases hx with rfl | rfl | rfl <;> decide)
    rw [b2] at h a1 b1 ⊢
    obtain ⟨c1, c2, c3⟩ := mc_hd h (by intro x hx; simp only [List.mem_cons, List.not_mem_nil, or_false] at hx; rcases hx with rfl | rfl <;> decide)
    rw [c2] at h a1 b1 c1 c3 ⊢
    obtain ⟨d1, d2, d3⟩ := mc_hd h (by intro x hx; simp only [List.mem_cons, List.not_mem_nil, or_false] at hx; rcases hx with rfl <;> decide)
    rw [c3] at d1
    rw [d2] at h a1 b1 c1 d1 ⊢
    obtain ⟨e1, e2, e3⟩ := mc_hd h (by intro x hx; simp only [List.not_mem_nil] at hx)
    exact ⟨a1, b1, c1, d1, e1⟩
  · subst q
    have e : spc 2 = [(0, 0, fun _ => 1), (1, 0, fun _ => 11), (2, 0, fun _ => 9999)] := rfl
    rw [e] at h ⊢
    obtain ⟨a1, a2, a3⟩ := mc_hd h (by intro x hx; simp only [List.mem_cons, List.not_mem_nil, or_false] at hx; rcases hx with rfl | rfl <;> decide)
    rw [a2] at h a1 ⊢
    obtain ⟨b1, b2, b3⟩ := mc_hd h (by intro x hx; simp only [List.mem_cons, List.not_mem_nil, or_false] at hx; rcases hx with rfl <;> decide)
    rw [b2] at h a1 b1 ⊢
    obtain ⟨c1, c2, c3⟩ := mc_hd h (by intro x hx; simp only [List.not_mem_nil] at hx)
    exact ⟨a1, b1, c1⟩
  · subst q
    have e : spc 3 = [(0, 0, fun _ => 1), (1, 1, fun _ => 9)] := rfl
    rw [e] at h ⊢
    obtain ⟨a1, a2, a3⟩ := mc_hd h (by intro x hx; simp only [List.mem_cons, List.not_mem_nil, or_false] at hx; rcases hx with rfl <;> decide)
    rw [a2] at h a1 ⊢
    obtain ⟨b1, b2, b3⟩ := mc_hd h (by intro x hx; simp only [List.not_mem_nil] at hx)
    exact ⟨a1, b1⟩
  · subst q
    have e : spc 4 = [(0, 0, fun _ => 3), (1, 0, fun _ => 3), (2, 0, fun _ => 11)] := rfl
    rw [e] at h ⊢
    obtain ⟨a1, a2, a3⟩ := mc_hd h (by intro x hx; simp only [List.mem_cons, List.not_mem_nil, or_false] at hx; rcases hx with rfl | rfl <;> decide)
    rw [a2] at h a1 ⊢
    obtain ⟨b1, b2, b3⟩ := mc_hd h (by intro x hx; simp only [List.mem_cons, List.not_mem_nil, or_false] at hx; rcases hx with rfl <;> decide)
    rw [b2] at h a1 b1 ⊢
    obtain ⟨c1, c2, c3⟩ := mc_hd h (by intro x hx; simp only [List.not_mem_nil] at hx)
    exact ⟨a1, b1, c1⟩
  · subst q
    have e : spc 5 = [(0, 0, fun _ => 1)] := rfl
    rw [e] at h ⊢
    obtain ⟨a1, a2, a3⟩ := mc_hd h (by intro x hx; simp only [List.not_mem_nil] at hx)
    exact a1
theorem spc_0 {w : Int} : ∀ x, x ∈ spc w → 0 ≤ x.1 := by
  intro x hx
  unfold spc at hx
  (repeat' split at hx) <;> simp only [List.mem_cons, List.not_mem_nil, or_false] at hx <;> rcases hx with rfl | rfl | rfl | rfl | rfl <;> decide
theorem wdH_in {σ : Hp} : -1 ≤ wdH σ ∧ wdH σ ≤ 5 := wdh_in 6 0 (by decide) (by decide)
theorem does_off {w a : Int} {σ : Hp} (h : 114 ≤ a) : F_does w σ a = σ a := by
  unfold F_does
  split
  · unfold F_all F_az F_al
    simp (disch := omega) only [wr_off, aes_off, fl6_offr]
  · split
    · unfold F_keys
      simp (disch := omega) only [wr_off]
    · split
      · rw [wr_off (by omega)]
      · split
        · rw [wr_off (by omega)]
        · split
          · rw [wr_off (by omega), wr_off (by omega)]
          · unfold F_joi F_fl
            split
            · rfl
            · rw [flt_off (by omega) (by omega), anew_off (by omega), anew_off (by omega)]
theorem does_89 {w k : Int} {σ : Hp} (h : 31 ≤ k) : F_does w σ 89 k = σ 89 k := by
  unfold F_does
  split
  · unfold F_all F_az F_al
    simp (disch := omega) only [wr_a, wr_k, aes_off, fl6_off]
  · split
    · unfold F_keys
      simp (disch := omega) only [wr_a]
    · split
      · rw [wr_a (by omega)]
      · split
        · rw [wr_a (by omega)]
        · split
          · rw [wr_a (by omega), wr_a (by omega)]
          · unfold F_joi F_fl
            split
            · rfl
            · rw [flt_89 (by omega), anew_off (by omega), anew_off (by omega)]
theorem Tx_c {σ τ : Hp} (h : ∀ k, 31 ≤ k → k ≤ 33 → τ 89 k = σ 89 k) (h2 : τ 114 = σ 114) (k : Tx σ) : Tx τ := by
  unfold Tx
  rw [h 31 (by decide) (by decide), h 32 (by decide) (by decide), h 33 (by decide) (by decide), h2]
  exact k
theorem Tx.nx {σ : Hp} (h : Tx σ) : Tx (F_next σ) := tx_next (by obtain ⟨⟨a, b, c, d⟩, e⟩ := h; omega) (by obtain ⟨⟨a, b, c, d⟩, e⟩ := h; omega) (by obtain ⟨⟨a, b, c, d⟩, e⟩ := h; omega) h.2
theorem rc_st {σ : Hp} {n m : Int} (hI : IV σ n m) (hX : Tx σ) : IV (M_rc σ).2 n m ∧ Tx (M_rc σ).2 ∧ ∀ j, j ≠ 32 → j ≠ 33 → (M_rc σ).2 89 j = σ 89 j := by
  unfold M_rc
  split
  · exact ⟨hI, hX, fun _ _ _ => rfl⟩
  · obtain ⟨i1, i2, i3⟩ := mc_st (spc (wdH σ)) (F_next σ) spc_0 (iv_next hI) hX.nx
    exact ⟨i1, i2, fun j q1 q2 => (i3 j q1 q2).trans (next_89 q1 q2)⟩
theorem rc_nb {σ : Hp} (h : ¬ (M_rc σ).1 = 0) : ¬ wdH σ = -1 ∧ Nb (wdH σ) (M_rc σ).2 := by
  have hw := wdH_in (σ := σ)
  by_cases q : wdH σ = -1
  · unfold M_rc at h
    rw [if_pos q] at h
    exact absurd rfl h
  · unfold M_rc at h ⊢
    rw [if_neg q] at h ⊢
    exact ⟨q, Nb_of (by omega) hw.2 h⟩
theorem rc_or {σ : Hp} : (M_rc σ).1 = 0 ∨ (M_rc σ).1 = 1 := by
  unfold M_rc
  split
  · exact Or.inl rfl
  · exact mc_or _ _
theorem cl_or {σ : Hp} : (M_cl σ).1 = 0 ∨ (M_cl σ).1 = 1 := by
  unfold M_cl
  (repeat' split)
  · exact Or.inl rfl
  · exact Or.inr rfl
  · exact Or.inr rfl
theorem cl_st {σ : Hp} {n m : Int} (hI : IV σ n m) (hX : Tx σ) : IV (M_cl σ).2 n m ∧ Tx (M_cl σ).2 ∧ (M_cl σ).2 89 34 = σ 89 34 ∧ (M_cl σ).2 89 35 = σ 89 35 ∧ (M_cl σ).2 89 31 = σ 89 31 := by
  obtain ⟨a, b, c⟩ := rc_st hI hX
  have hw := wdH_in (σ := σ)
  unfold M_cl
  by_cases h1 : (M_rc σ).1 = 0
  · rw [if_pos h1]
    exact ⟨a, b, c _ (by decide) (by decide), c _ (by decide) (by decide), c _ (by decide) (by decide)⟩
  · rw [if_neg h1]
    obtain ⟨w1, N⟩ := rc_nb h1
    split
    · exact ⟨a, b, c _ (by decide) (by decide), c _ (by decide) (by decide), c _ (by decide) (by decide)⟩
    · refine ⟨iv_does a (by omega) hw.2 N, Tx_c (fun k k0 k1 => does_89 k0) (does_off (by decide)) b, ?_, ?_, ?_⟩
      · exact (does_89 (by decide)).trans (c _ (by decide) (by decide))
      · exact (does_89 (by decide)).trans (c _ (by decide) (by decide))
      · exact (does_89 (by decide)).trans (c _ (by decide) (by decide))
section RI
variable {G : GG} {b : Nat × Nat} {Q : Option VV → Hp → Prop} {g : Hp}
set_option maxHeartbeats 4000000 in
theorem R_clause {σ : Hp} {n m : Int} (hI : IV σ n m) (hX : Tx σ) (hk : Q (some (vI (M_cl σ).1)) (mg g (M_cl σ).2)) : Runs G mm_X10_readsClause [vR 89] (mg g σ) Q := by
  have hw := wdH_in (σ := σ)
  have hX2 := hX
  obtain ⟨⟨x0, x1, x2, x3⟩, x4⟩ := hX
  have s1 : ∀ {τ : Hp} {n m : Int}, IV τ n m → mg g τ 89 (-1) = 11 := fun h => by
    rw [mg_in (by decide) (by decide)]
    exact h.s.1
  refine rn_X10_readsClause ⟨s1 hI, ?_⟩
  refine R_wordHere hI.s x0 x1 (by omega) ?_
  unfold M_cl at hk
  by_cases q : wdH σ = -1
  · have e : M_rc σ = (0, σ) := by
      unfold M_rc
      rw [if_pos q]
    rw [e, if_pos rfl] at hk
    exact sg_X10_readsClause_4 ⟨fun z => absurd q z, fun _ => hk⟩
  · have e : M_rc σ = M_rr (wdH σ) (F_next σ) := by
      unfold M_rc
      rw [if_neg q]
    refine sg_X10_readsClause_4 ⟨fun _ => ⟨s1 hI, ?_⟩, fun z => absurd z q⟩
    refine R_next hI.s (by omega) (by omega) (by omega) (by omega) ?_
    refine sg_X10_readsClause_16 ⟨s1 (iv_next hI), ?_⟩
    refine R_rest (iv_next hI).s hX2.nx ?_
    rw [← e]
    obtain ⟨a1, a2, a3⟩ := rc_st hI hX2
    refine sg_X10_readsClause_21 ⟨fun z => ⟨s1 a1, ?_⟩, fun z => ?_⟩
    · obtain ⟨w1, N⟩ := rc_nb z
      rw [if_neg z] at hk
      rw [mg_in (by decide) (by decide)]
      refine ⟨fun z2 => ?_, fun z2 => ?_⟩
      · rw [if_pos z2] at hk
        exact hk
      · rw [if_neg z2] at hk
        exact R_does a1 (by omega) hw.2 N (sg_X10_readsClause_38 hk)
    · rw [if_pos z] at hk
      exact hk
theorem ra_0 {k : Nat} {σ : Hp} : F_ra k (0, σ) = (0, σ) := by
  cases k with
  | zero => rfl
  | succ k =>
    unfold F_ra
    rw [if_pos rfl]
set_option maxHeartbeats 4000000 in
theorem L_ra {n m : Int} : ∀ (k : Nat) (is : Int) (σ : Hp), IV σ n m → Tx σ → (is = 0 ∨ is = 1) → 1 ≤ σ 89 34 → 24 ≤ σ 89 34 + k → σ 89 34 ≤ 24 → Q (some (vI (F_ra (k + 1) (is, σ)).1)) (mg g (F_ra (k + 1) (is, σ)).2) → AW G mm_X10_readsAll b 24 [(0, vR 89), (2, vI is)] [] (mg g σ) Q := by
  intro k
  induction k with
  | zero =>
    intro is σ hI hX hi c0 c1 c2 hk
    have hT := hI.s
    have hX2 := hX
    obtain ⟨⟨x0, x1, x2, x3⟩, x4⟩ := hX
    have hk : Q (some (vI (if is = 0 then (is, σ) else if σ 89 31 ≤ σ 89 32 then (is, σ) else if 24 ≤ σ 89 34 ∨ ¬ σ 114 (σ 89 32) = 59 then (0, σ) else _).1)) (mg g (if is = 0 then (is, σ) else if σ 89 31 ≤ σ 89 32 then (is, σ) else if 24 ≤ σ 89 34 ∨ ¬ σ 114 (σ 89 32) = 59 then (0, σ) else _).2) := hk
    refine sg_X10_readsAll_24 ?_
    simp (disch := omega) only [mg_in, hT, true_and]
    refine ⟨fun q => ⟨hi, ?_⟩, fun q => ⟨fun q2 => ⟨hi, ?_⟩, fun q2 => ⟨fun q3 => ?_, fun q3 => by omega⟩⟩⟩
    · rw [if_pos q] at hk
      exact hk
    · rw [if_neg q, if_pos q2] at hk
      exact hk
    · rw [if_neg q, if_neg q2, if_pos (Or.inl q3)] at hk
      exact sg_X10_readsAll_24 ⟨fun _ => ⟨Or.inl rfl, hk⟩, fun z => absurd rfl z⟩
  | succ k ih =>
    intro is σ hI hX hi c0 c1 c2 hk
    have hT := hI.s
    have hX2 := hX
    obtain ⟨⟨x0, x1, x2, x3⟩, x4⟩ := hX
    have hk : Q (some (vI (if is = 0 then (is, σ) else if σ 89 31 ≤ σ 89 32 then (is, σ) else if 24 ≤ σ 89 34 ∨ ¬ σ 114 (σ 89 32) = 59 then (0, σ) else F_ra (k + 1) ((M_cl (F_next σ)).1, wr (M_cl (F_next σ)).2 89 34 ((M_cl (F_next σ)).2 89 34 + 1))).1)) (mg g (if is = 0 then (is, σ) else if σ 89 31 ≤ σ 89 32 then (is, σ) else if 24 ≤ σ 89 34 ∨ ¬ σ 114 (σ 89 32) = 59 then (0, σ) else F_ra (k + 1) ((M_cl (F_next σ)).1, wr (M_cl (F_next σ)).2 89 34 ((M_cl (F_next σ)).2 89 34 + 1))).2) := hk
    refine sg_X10_readsAll_24 ?_
    simp (disch := omega) only [mg_in, hT, true_and]
    refine ⟨fun q => ⟨hi, ?_⟩, fun q => ⟨fun q2 => ⟨hi, ?_⟩, fun q2 => ⟨fun q3 => ?_, fun q3 => ⟨x0, by omega, fun q4 => ?_, fun q4 => ?_⟩⟩⟩⟩
    · rw [if_pos q] at hk
      exact hk
    · rw [if_neg q, if_pos q2] at hk
      exact hk
    · rw [if_neg q, if_neg q2, if_pos (Or.inl q3)] at hk
      exact sg_X10_readsAll_24 ⟨fun _ => ⟨Or.inl rfl, hk⟩, fun z => absurd rfl z⟩
    · rw [if_neg q, if_neg q2, if_pos (Or.inr q4)] at hk
      exact sg_X10_readsAll_24 ⟨fun _ => ⟨Or.inl rfl, hk⟩, fun z => absurd rfl z⟩
    · rw [if_neg q, if_neg q2, if_neg (by omega)] at hk
      have iN := iv_next hI
      have c34 : F_next σ 89 34 = σ 89 34 := next_89 (by decide) (by decide)
      obtain ⟨d1, d2, d3, d4, d5⟩ := cl_st iN hX2.nx
      refine R_next hT (by omega) (by omega) (by omega) (by omega) ?_
      refine sg_X10_readsAll_76 ⟨by rw [mg_in (by decide) (by decide)]; exact iN.s.1, ?_⟩
      refine R_clause iN hX2.nx ?_
      have e34 : mg g (M_cl (F_next σ)).2 89 34 = (M_cl (F_next σ)).2 89 34 := by rw [mg_in (by decide) (by decide)]
      refine sg_X10_readsAll_80 ⟨by rw [mg_in (by decide) (by decide)]; exact d1.s.1, ?_, ?_⟩
      · rw [e34]
        unfold inI
        omega
      · simp only [forall_eq]
        rw [e34, mg_wr (by decide) (by decide)]
        refine ih _ _ (iv_sc d1 (by omega)) (Tx_c (fun k k0 k1 => wr_k (by omega)) (wr_off (by decide)) d2) cl_or ?_ ?_ ?_ hk
        · rw [wr_e]; omega
        · rw [wr_e]; omega
        · rw [wr_e]; omega
theorem beg_st {σ : Hp} {n m d : Int} (hI : IV σ n m) : IV (F_beg d σ) n m ∧ Tx (F_beg d σ) ∧ F_beg d σ 89 34 = 1 ∧ F_beg d σ 89 35 = d ∧ F_beg d σ 89 31 = σ 89 31 ∧ F_beg d σ 114 = σ 114 := by
  obtain ⟨x0, x1, x2⟩ := hI.x
  have i3 : IV (wr (wr (wr σ 89 35 d) 89 33 0) 89 34 1) n m := iv_sc (iv_sc (iv_sc hI (by omega)) (by omega)) (by omega)
  have e31 : wr (wr (wr σ 89 35 d) 89 33 0) 89 34 1 89 31 = σ 89 31 := by simp (disch := omega) only [wr_k]
  have e33 : wr (wr (wr σ 89 35 d) 89 33 0) 89 34 1 89 33 = 0 := by simp (disch := omega) only [wr_k, wr_e]
  have e114 : wr (wr (wr σ 89 35 d) 89 33 0) 89 34 1 114 = σ 114 := by simp (disch := omega) only [wr_off]
  unfold F_beg
  refine ⟨iv_next i3, tx_next (by rw [e33]; decide) (by rw [e33, e31]; exact x0) (by rw [e31]; exact x1) (by rw [e31, e114]; exact x2), ?_, ?_, ?_, ?_⟩
  · rw [next_89 (by decide) (by decide), wr_e]
  · rw [next_89 (by decide) (by decide)]
    simp (disch := omega) only [wr_k, wr_e]
  · rw [next_89 (by decide) (by decide), e31]
  · rw [next_off (by decide), e114]
set_option maxHeartbeats 4000000 in
theorem R_readsAll {σ : Hp} {n m d : Int} (hI : IV σ n m) (hd : d = 0 ∨ d = 1) (hk : Q (some (vI (M_all d σ).1)) (mg g (M_all d σ).2)) : Runs G mm_X10_readsAll [vR 89, vI d] (mg g σ) Q := by
  obtain ⟨x0, x1, x2⟩ := hI.x
  obtain ⟨b1, b2, b3, b4, b5, b6⟩ := beg_st (d := d) hI
  obtain ⟨d1, d2, d3, d4, d5⟩ := cl_st b1 b2
  have i3 : IV (wr (wr (wr σ 89 35 d) 89 33 0) 89 34 1) n m := iv_sc (iv_sc (iv_sc hI (by omega)) (by omega)) (by omega)
  have e31 : wr (wr (wr σ 89 35 d) 89 33 0) 89 34 1 89 31 = σ 89 31 := by simp (disch := omega) only [wr_k]
  have e33 : wr (wr (wr σ 89 35 d) 89 33 0) 89 34 1 89 33 = 0 := by simp (disch := omega) only [wr_k, wr_e]
  refine rn_X10_readsAll ⟨by rw [mg_in (by decide) (by decide)]; exact hI.s.1, hd, ?_⟩
  simp only [forall_eq]
  rw [mg_wr (by decide) (by decide), mg_wr (by decide) (by decide), mg_wr (by decide) (by decide)]
  refine R_next i3.s (by rw [e31]; exact x0) (by rw [e31]; exact x1) (by rw [e33]; decide) (by rw [e33, e31]; exact x0) ?_
  refine sg_X10_readsAll_19 ⟨by rw [mg_in (by decide) (by decide)]; exact b1.s.1, ?_⟩
  refine R_clause b1 b2 ?_
  refine sg_X10_readsAll_23 ?_
  exact L_ra 23 (M_cl (F_beg d σ)).1 (M_cl (F_beg d σ)).2 d1 d2 cl_or (by rw [d3, b3]; decide) (by rw [d3, b3]; decide) (by rw [d3, b3]; decide) hk
theorem ra_st {n m : Int} : ∀ (k : Nat) (s : Int × Hp), IV s.2 n m → Tx s.2 → IV (F_ra k s).2 n m ∧ Tx (F_ra k s).2 ∧ (F_ra k s).2 89 35 = s.2 89 35 ∧ (F_ra k s).2 89 31 = s.2 89 31
  | 0, s, hI, hX => ⟨hI, hX, rfl, rfl⟩
  | k + 1, s, hI, hX => by
    unfold F_ra
    split
    · exact ⟨hI, hX, rfl, rfl⟩
    · split
      · exact ⟨hI, hX, rfl, rfl⟩
      · split
        · exact ⟨hI, hX, rfl, rfl⟩
        · obtain ⟨d1, d2, d3, d4, d5⟩ := cl_st (iv_next hI) hX.nx
          have hX3 : Tx (wr (M_cl (F_next s.2)).2 89 34 ((M_cl (F_next s.2)).2 89 34 + 1)) := Tx_c (fun k k0 k1 => wr_k (by omega)) (wr_off (by decide)) d2
          obtain ⟨e1, e2, e3, e4⟩ := ra_st k ((M_cl (F_next s.2)).1, wr (M_cl (F_next s.2)).2 89 34 ((M_cl (F_next s.2)).2 89 34 + 1)) (iv_sc d1 (by omega)) hX3
          refine ⟨e1, e2, ?_, ?_⟩
          · rw [e3]
            show wr (M_cl (F_next s.2)).2 89 34 ((M_cl (F_next s.2)).2 89 34 + 1) 89 35 = _
            rw [wr_k (by decide), d4, next_89 (by decide) (by decide)]
          · rw [e4]
            show wr (M_cl (F_next s.2)).2 89 34 ((M_cl (F_next s.2)).2 89 34 + 1) 89 31 = _
            rw [wr_k (by decide), d5, next_89 (by decide) (by decide)]
theorem all_st {σ : Hp} {n m d : Int} (hI : IV σ n m) : IV (M_all d σ).2 n m ∧ Tx (M_all d σ).2 ∧ (M_all d σ).2 89 35 = d ∧ (M_all d σ).2 89 31 = σ 89 31 := by
  obtain ⟨b1, b2, b3, b4, b5, b6⟩ := beg_st (d := d) hI
  obtain ⟨d1, d2, d3, d4, d5⟩ := cl_st b1 b2
  obtain ⟨e1, e2, e3, e4⟩ := ra_st 24 (M_cl (F_beg d σ)) d1 d2
  exact ⟨e1, e2, e3.trans (d4.trans b4), e4.trans (d5.trans b5)⟩
theorem R_fault {σ : Hp} {n m : Int} (hI : IV σ n m) (hk : Q (some (vI (M_fault σ).1)) (mg g (M_fault σ).2)) : Runs G mm_X10_fault [vR 89] (mg g σ) Q := by
  obtain ⟨a1, a2, a3, a4⟩ := all_st (d := 0) hI
  unfold M_fault at hk
  refine rn_X10_fault ⟨by rw [mg_in (by decide) (by decide)]; exact hI.s.1, ?_⟩
  refine R_readsAll hI (Or.inl rfl) ?_
  refine sg_X10_fault_5 ⟨fun z => ⟨by rw [mg_in (by decide) (by decide)]; exact a1.s.1, ?_⟩, fun z => ?_⟩
  · dsimp only at hk
    rw [if_pos z] at hk
    rw [mg_in (by decide) (by decide)]
    exact hk
  · dsimp only at hk
    rw [if_neg z] at hk
    exact hk
theorem R_tell {σ : Hp} {n m : Int} (hI : IV σ n m) (hk : Q (some (vI (M_tell σ).1)) (mg g (M_tell σ).2)) : Runs G mm_X10_tell [vR 89] (mg g σ) Q := by
  obtain ⟨a1, a2, a3, a4⟩ := all_st (d := 0) hI
  obtain ⟨c1, c2, c3, c4⟩ := all_st (d := 1) a1
  unfold M_tell at hk
  refine rn_X10_tell ⟨by rw [mg_in (by decide) (by decide)]; exact hI.s.1, ?_⟩
  refine R_readsAll hI (Or.inl rfl) ?_
  refine sg_X10_tell_5 ⟨fun z => ⟨by rw [mg_in (by decide) (by decide)]; exact a1.s.1, ?_⟩, fun z => ?_⟩
  · rw [if_neg z] at hk
    refine R_readsAll a1 (Or.inr rfl) ?_
    refine sg_X10_tell_17 ⟨by rw [mg_in (by decide) (by decide)]; exact c1.s.1, ?_⟩
    simp only [forall_eq]
    rw [mg_in (by decide) (by decide), mg_wr (by decide) (by decide)]
    exact hk
  · rw [if_pos z] at hk
    exact hk
end RI
