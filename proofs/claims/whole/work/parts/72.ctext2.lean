/-! the class: numbers, clauses, the first fault -/
abbrev LA (σ g : Hp) : Prop := σ 89 32 = tkF (σ 114) (σ 89 31) (g 32 4) ∧ σ 89 33 = tkB (σ 114) (σ 89 31) (σ 89 32) ∧ 0 ≤ g 32 4 ∧ g 32 4 ≤ σ 89 31
theorem rd_0 {k lo hi : Int} {σ : Hp} (h : σ 89 32 = σ 89 31 ∨ ¬ (48 ≤ σ 114 (σ 89 32) ∧ σ 114 (σ 89 32) ≤ 57) ∨ ¬ σ 89 33 - σ 89 32 ≤ 4 ∨ ¬ (lo ≤ nmH σ ∧ nmH σ ≤ hi)) : M_rd k lo hi σ = (0, σ) := by
  unfold M_rd
  by_cases q1 : σ 89 32 = σ 89 31
  · rw [if_pos q1]
  · rw [if_neg q1]
    by_cases q2 : ¬ (48 ≤ σ 114 (σ 89 32) ∧ σ 114 (σ 89 32) ≤ 57)
    · rw [if_pos q2]
    · rw [if_neg q2]
      by_cases q3 : ¬ σ 89 33 - σ 89 32 ≤ 4
      · rw [if_pos q3]
      · rw [if_neg q3, if_pos (by omega)]
theorem rd_1 {k lo hi : Int} {σ : Hp} (h1 : ¬ σ 89 32 = σ 89 31) (h2 : 48 ≤ σ 114 (σ 89 32) ∧ σ 114 (σ 89 32) ≤ 57) (h3 : σ 89 33 - σ 89 32 ≤ 4) (h4 : lo ≤ nmH σ ∧ nmH σ ≤ hi) : M_rd k lo hi σ = (1, F_next (wr σ 115 k (nmH σ))) := by
  unfold M_rd
  rw [if_neg h1, if_neg (fun q => q h2), if_neg (fun q => q h3), if_neg (fun q => q h4)]
theorem tkB_gt {t : Int → Int} {L f : Int} (h : f < L) : f + 1 ≤ tkB t L f := by
  have e : tk1 L f = f + 1 := if_pos h
  unfold tkB
  rw [e]
  exact (rnk_in _ _ (by omega)).1
theorem tkB_L {t : Int → Int} {L : Int} : tkB t L L = L := by
  have e : tk1 L L = L := if_neg (by omega)
  unfold tkB
  rw [e, show tkS t L L = 0 from if_neg (by omega), show tkD t L L = 0 from if_neg (by omega), rnk_00]
section KF
variable {G : GG} {b : Nat × Nat} {Q : Option VV → Hp → Prop}
set_option maxHeartbeats 4000000 in
theorem Lc_num {k lo hi : Int} {σ h : Hp} (hC : TC (σ 114) (σ 89 31) h) (hX : Tx σ) (he : h 32 4 = σ 89 33) (k0 : 0 ≤ k) (k1 : k < 5) (h1 : ¬ (lo ≤ nmH σ ∧ nmH σ ≤ hi) → Q (some (vI 0)) (wr h 34 k (nmH σ))) (h2 : lo ≤ nmH σ ∧ nmH σ ≤ hi → Q (some (vI 1)) (wr h 34 k (nmH σ))) : ∀ (n : Nat) (q v : Int), 0 ≤ q → q + n = σ 89 33 → nmr (σ 114) n q v = nmH σ → n ≤ 4 → ((1 ≤ n → -28305 ≤ v ∧ v ≤ 28305) ∧ (2 ≤ n → -2805 ≤ v ∧ v ≤ 2805) ∧ (3 ≤ n → -255 ≤ v ∧ v ≤ 255) ∧ (4 ≤ n → v = 0)) → AW G mm_X6_readNumber b 53 [(0, vR 32), (1, vI k), (2, vI lo), (3, vI hi), (5, vI v), (6, vI q)] [] h Q := by
  obtain ⟨hT, hL, hb, ht⟩ := hC
  have hT6 := hT.2.2.2.2.2.1
  obtain ⟨⟨x0, x1, x2, x3⟩, x4⟩ := hX
  intro n
  induction n with
  | zero =>
    intro q v q0 hq hn n4 hv
    have hn : v = nmH σ := hn
    refine sg_X6_readNumber_53 ?_
    rw [he, hT6.2.2.1, hT6.2.2.2.2.2.1, hT6.2.2.2.2.2.2]
    refine ⟨hT6.1, fun _ => ⟨rfl, k0, k1, ?_⟩, fun z => by omega⟩
    simp only [forall_eq]
    rw [hn]
    exact ⟨fun z => h1 (by omega), fun z => h2 (by omega)⟩
  | succ n ih =>
    intro q v q0 hq hn n4 hv
    have tq := ht q q0 (by omega)
    have hn : nmr (σ 114) n (q + 1) (10 * v + σ 114 q - 48) = nmH σ := hn
    refine sg_X6_readNumber_53 ?_
    rw [he, hT6.2.1, tq.1, hT6.2.2.2.1, hT6.2.2.2.2.1]
    refine ⟨hT6.1, fun z => by omega, fun _ => ⟨by unfold inI; omega, rfl, q0, by omega, by unfold inI; omega, by unfold inI; omega, by unfold inI; omega, ?_⟩⟩
    rw [show v * 10 + (σ 114 q - 48) = 10 * v + σ 114 q - 48 by omega]
    exact ih (q + 1) _ (by omega) (by omega) hn (by omega) ⟨by omega, by omega, by omega, by omega⟩
set_option maxHeartbeats 4000000 in
theorem K_num {k lo hi : Int} {σ h : Hp} (hC : TC (σ 114) (σ 89 31) h) (hX : Tx σ) (hL : LA σ h) (k0 : 0 ≤ k) (k1 : k < 5) (hk1 : ¬ (M_rd k lo hi σ).1 = 0 → ∀ g, TV h g → LA (M_rd k lo hi σ).2 g → g 34 k = (M_rd k lo hi σ).2 115 k → (∀ j, j ≠ k → g 34 j = h 34 j) → (∀ j, 5 ≤ j → g 32 j = h 32 j) → Q (some (vI 1)) g) (hk0 : (M_rd k lo hi σ).1 = 0 → ∀ g, TV h g → g 32 3 = (M_rd k lo hi σ).2 89 32 → (∀ j, 5 ≤ j → g 32 j = h 32 j) → Q (some (vI 0)) g) : Runs G mm_X6_readNumber [vR 32, vI k, vI lo, vI hi] h Q := by
  obtain ⟨l1, l2, l3, l4⟩ := hL
  have hX2 := hX
  obtain ⟨⟨x0, x1, x2, x3⟩, x4⟩ := hX
  refine rn_X6_readNumber ⟨hC.1.2.2.2.2.2.1.1, ?_⟩
  refine K_next hC rfl l3 l4 (fun g tw g3 g4 => ?_)
  rw [← l1] at g3 g4
  rw [← l2] at g4
  have hCg := hC.v tw.1
  have hCg2 := hCg
  obtain ⟨hT, hL, hb, ht⟩ := hCg
  have hT6 := hT.2.2.2.2.2.1
  have z0 : M_rd k lo hi σ = (0, σ) → Q (some (vI 0)) g := fun z => hk0 (by rw [z]) g tw.1 (by rw [z]; exact g3) tw.2.1
  refine sg_X6_readNumber_4 ?_
  rw [g3, g4, hT6.2.1, hT6.2.2.2.1, hT6.2.2.2.2.1]
  refine ⟨hT6.1, by unfold inI; omega, fun q => z0 (rd_0 (Or.inl ?_)), fun q => ⟨fun q2 => z0 (rd_0 (Or.inr (Or.inr (Or.inl (by omega))))), fun q2 => ⟨rfl, x0, by omega, fun q3 => ?_, fun q3 => ?_⟩⟩⟩
  · have : ¬ σ 89 32 < σ 89 31 := fun z => by
      have := tkB_gt (t := σ 114) z
      omega
    omega
  · have ne : ¬ σ 89 32 = σ 89 31 := fun z => by
      rw [z, tkB_L] at l2
      omega
    rw [(ht (σ 89 32) x0 (by omega)).1] at q3
    refine Lc_num hCg2 hX2 g4 k0 k1 (fun z => ?_) (fun z => ?_) (σ 89 33 - σ 89 32).toNat (σ 89 32) 0 x0 (by omega) rfl (by omega) ⟨by omega, by omega, by omega, by omega⟩
    · have e := rd_0 (k := k) (lo := lo) (hi := hi) (Or.inr (Or.inr (Or.inr z)))
      refine hk0 (by rw [e]) _ (tw.1.trans (tv_34 k0)) (by rw [e, wr_a (by decide)]; exact g3) (fun j j5 => by rw [wr_a (by decide)]; exact tw.2.1 j j5)
    · have e := rd_1 (k := k) ne q3 (by omega) z
      have e31 : wr σ 115 k (nmH σ) 89 = σ 89 := wr_off (by decide)
      have e114 : wr σ 115 k (nmH σ) 114 = σ 114 := wr_off (by decide)
      refine hk1 (by rw [e]; exact (by decide : ¬ (1 : Int) = 0)) _ (tw.1.trans (tv_34 k0)) ?_ ?_ (fun j jk => ?_) (fun j j5 => by rw [wr_a (by decide)]; exact tw.2.1 j j5)
      · rw [e]
        show LA (F_next (wr σ 115 k (nmH σ))) _
        rw [LA, next_32, next_33, next_89 (by decide) (by decide), next_off (by decide), e31, e114, wr_a (by decide), g4]
        exact ⟨rfl, rfl, by omega, by omega⟩
      · rw [e]
        show _ = F_next (wr σ 115 k (nmH σ)) 115 k
        rw [next_off (by decide), wr_e, wr_e]
      · rw [wr_k jk, tw.2.2]
  · refine z0 ?_
    by_cases ne : σ 89 32 = σ 89 31
    · exact rd_0 (Or.inl ne)
    · rw [(ht (σ 89 32) x0 (by omega)).1] at q3
      exact rd_0 (Or.inr (Or.inl q3))
def nk (w : Int) : Int := if w = 1 then 5 else if w = 2 ∨ w = 4 then 3 else if w = 3 then 2 else if w = 5 then 1 else 0
abbrev NI (m : Int) (s g : Hp) : Prop := ∀ k, 0 ≤ k → k < m → g 34 k = s 115 k
/-- what is wanted behind the rest of a clause -/
def CK (Q : Option VV → Hp → Prop) (w c : Int) (h : Hp) (r : Int × Hp) : Prop := (¬ r.1 = 0 → ∀ g, TV h g → LA r.2 g → g 32 5 = w → g 32 6 = c → NI (nk w) r.2 g → Q (some (vI 1)) g) ∧ (r.1 = 0 → ∀ g, TV h g → g 32 3 = r.2 89 32 → g 32 6 = c → Q (some (vI 0)) g)
theorem rd_in {k lo hi : Int} {s : Hp} (k0 : 0 ≤ k) : (M_rd k lo hi s).2 114 = s 114 ∧ (M_rd k lo hi s).2 89 31 = s 89 31 ∧ (M_rd k lo hi s).2 116 = s 116 := by
  refine ⟨?_, rd_89 (by decide) (by decide), ?_⟩
  · unfold M_rd
    (repeat' split) <;> first | rfl | (show F_next (wr s 115 k (nmH s)) 114 = s 114; rw [next_off (by decide), wr_off (by decide)])
  · unfold M_rd
    (repeat' split) <;> first | rfl | (show F_next (wr s 115 k (nmH s)) 116 = s 116; rw [next_off (by decide), wr_off (by decide)])
theorem Tx_rd {k lo hi : Int} {s : Hp} (hX : Tx s) : Tx (M_rd k lo hi s).2 := by
  have h1 : Tx (wr s 115 k (nmH s)) := Tx_c (fun j _ _ => wr_a (by decide)) (wr_off (by decide)) hX
  unfold M_rd
  (repeat' split) <;> first | exact hX | exact h1.nx
set_option maxHeartbeats 4000000 in
theorem K_item {k lo w c hi : Int} {f : Hp → Int} {t : List (Int × Int × (Hp → Int))} {s h g : Hp} {Z : Option VV → Hp → Prop} (hhi : hi = f s) (hX : Tx s) (hC : TC (s 114) (s 89 31) g) (tv : TV h g) (la : LA s g) (w5 : g 32 5 = w) (c6 : g 32 6 = c) (ni : NI k s g) (k0 : 0 ≤ k) (k1 : k < 5) (ck : CK Q w c h (M_c ((k, lo, f) :: t) s)) (z1 : ∀ s' g', Tx s' → TC (s' 114) (s' 89 31) g' → TV h g' → LA s' g' → g' 32 5 = w → g' 32 6 = c → NI (k + 1) s' g' → CK Q w c h (M_c t s') → (lo ≤ s' 115 k ∧ s' 115 k ≤ hi) → Z (some (vI 1)) g') (z0 : ∀ g', Q (some (vI 0)) g' → Z (some (vI 0)) g') : Runs G mm_X6_readNumber [vR 32, vI k, vI lo, vI hi] g Z := by
  subst hhi
  have e : M_c ((k, lo, f) :: t) s = if (M_rd k lo (f s) s).1 = 0 then (0, (M_rd k lo (f s) s).2) else M_c t (M_rd k lo (f s) s).2 := rfl
  obtain ⟨r1, r2, r3⟩ := rd_in (lo := lo) (hi := f s) (s := s) k0
  rw [e] at ck
  refine K_num hC hX la k0 k1 (fun z g' a1 a2 a3 a4 a5 => ?_) (fun z g' a1 a2 a3 => ?_)
  · rw [if_neg z] at ck
    refine z1 (M_rd k lo (f s) s).2 g' (Tx_rd hX) (by rw [r1, r2]; exact hC.v a1) (tv.trans a1) a2 (by rw [a5 5 (by decide)]; exact w5) (by rw [a5 6 (by decide)]; exact c6) (fun j j0 j1 => ?_) ck (rd_ok z)
    by_cases hj : j = k
    · rw [hj]
      exact a3
    · rw [a4 j hj, rd_115 hj]
      exact ni j j0 (by omega)
  · rw [if_pos z] at ck
    exact z0 g' (ck.2 rfl g' (tv.trans a1) a2 (by rw [a3 6 (by decide)]; exact c6))
theorem ck_nil {w c : Int} {s h g : Hp} (ck : CK Q w c h (M_c [] s)) (tv : TV h g) (la : LA s g) (w5 : g 32 5 = w) (c6 : g 32 6 = c) (ni : NI (nk w) s g) : Q (some (vI 1)) g := ck.1 (by show ¬ (1 : Int) = 0; decide) g tv la w5 c6 ni
set_option maxHeartbeats 4000000 in
theorem K_w1 {c : Int} {s h g : Hp} (hX : Tx s) (hC : TC (s 114) (s 89 31) g) (tv : TV h g) (la : LA s g) (w5 : g 32 5 = 1) (c6 : g 32 6 = c) (ck : CK Q 1 c h (M_c [(0, 0, fun _ => 1), (1, 0, fun _ => 3), (2, 0, fun _ => 11), (3, 1, fun σ => 12 - σ 115 2), (4, 0, fun _ => 7)] s)) : Runs G mm_X6_readNumber [vR 32, vI 0, vI 0, vI 1] g (fun r h' => AW G mm_X6_readClause b 65 [(0, vR 32)] (r.toList ++ []) h' Q) := by
  refine K_item (Q := Q) rfl hX hC tv la w5 c6 (fun k k0 k1 => by omega) (by decide) (by decide) ck (fun s0 g0 x0 tc0 tv0 la0 wf0 cs0 ni0 ck0 bd0 => ?_) (fun g' hq => sg_X6_readClause_65 ⟨fun _ => hq, fun z => absurd rfl z⟩)
  refine sg_X6_readClause_65 ⟨fun z => absurd z (by decide), fun _ => ⟨tc0.1.2.2.2.2.2.1.1, ?_⟩⟩
  refine K_item (Q := Q) rfl x0 tc0 tv0 la0 wf0 cs0 ni0 (by decide) (by decide) ck0 (fun s1 g1 x1 tc1 tv1 la1 wf1 cs1 ni1 ck1 bd1 => ?_) (fun g' hq => sg_X6_readClause_75 ⟨fun _ => hq, fun z => absurd rfl z⟩)
  refine sg_X6_readClause_75 ⟨fun z => absurd z (by decide), fun _ => ⟨tc1.1.2.2.2.2.2.1.1, ?_⟩⟩
  refine K_item (Q := Q) rfl x1 tc1 tv1 la1 wf1 cs1 ni1 (by decide) (by decide) ck1 (fun s2 g2 x2 tc2 tv2 la2 wf2 cs2 ni2 ck2 bd2 => ?_) (fun g' hq => sg_X6_readClause_86 ⟨fun _ => hq, fun z => absurd rfl z⟩)
  have hT6 := tc2.1.2.2.2.2.2.1
  have n2 : g2 34 2 = s2 115 2 := ni2 2 (by decide) (by decide)
  refine sg_X6_readClause_86 ⟨fun z => absurd z (by decide), fun _ => ⟨hT6.1, ?_⟩⟩
  rw [hT6.2.2.1]
  refine ⟨hT6.2.2.2.2.2.1, by rw [hT6.2.2.2.2.2.2]; decide, ?_, ?_⟩
  · rw [n2]
    unfold inI
    have := bd2
    omega
  refine K_item (Q := Q) (by rw [n2]) x2 tc2 tv2 la2 wf2 cs2 ni2 (by decide) (by decide) ck2 (fun s3 g3 x3 tc3 tv3 la3 wf3 cs3 ni3 ck3 bd3 => ?_) (fun g' hq => sg_X6_readClause_104 ⟨fun _ => hq, fun z => absurd rfl z⟩)
  refine sg_X6_readClause_104 ⟨fun z => absurd z (by decide), fun _ => ⟨tc3.1.2.2.2.2.2.1.1, ?_⟩⟩
  refine K_item (Q := Q) rfl x3 tc3 tv3 la3 wf3 cs3 ni3 (by decide) (by decide) ck3 (fun s4 g4 x4 tc4 tv4 la4 wf4 cs4 ni4 ck4 bd4 => ?_) (fun g' hq => sg_X6_readClause_115 ⟨fun _ => hq, fun z => absurd rfl z⟩)
  exact sg_X6_readClause_115 ⟨fun z => absurd z (by decide), fun _ => ck_nil ck4 tv4 la4 wf4 cs4 ni4⟩
set_option maxHeartbeats 4000000 in
theorem K_w2 {c : Int} {s h g : Hp} (hX : Tx s) (hC : TC (s 114) (s 89 31) g) (tv : TV h g) (la : LA s g) (w5 : g 32 5 = 2) (c6 : g 32 6 = c) (ck : CK Q 2 c h (M_c [(0, 0, fun _ => 1), (1, 0, fun _ => 11), (2, 0, fun _ => 9999)] s)) : Runs G mm_X6_readNumber [vR 32, vI 0, vI 0, vI 1] g (fun r h' => AW G mm_X6_readClause b 131 [(0, vR 32)] (r.toList ++ []) h' Q) := by
  refine K_item (Q := Q) rfl hX hC tv la w5 c6 (fun k k0 k1 => by omega) (by decide) (by decide) ck (fun s0 g0 x0 tc0 tv0 la0 wf0 cs0 ni0 ck0 bd0 => ?_) (fun g' hq => sg_X6_readClause_131 ⟨fun _ => hq, fun z => absurd rfl z⟩)
  refine sg_X6_readClause_131 ⟨fun z => absurd z (by decide), fun _ => ⟨tc0.1.2.2.2.2.2.1.1, ?_⟩⟩
  refine K_item (Q := Q) rfl x0 tc0 tv0 la0 wf0 cs0 ni0 (by decide) (by decide) ck0 (fun s1 g1 x1 tc1 tv1 la1 wf1 cs1 ni1 ck1 bd1 => ?_) (fun g' hq => sg_X6_readClause_142 ⟨fun _ => hq, fun z => absurd rfl z⟩)
  refine sg_X6_readClause_142 ⟨fun z => absurd z (by decide), fun _ => ⟨tc1.1.2.2.2.2.2.1.1, ?_⟩⟩
  refine K_item (Q := Q) rfl x1 tc1 tv1 la1 wf1 cs1 ni1 (by decide) (by decide) ck1 (fun s2 g2 x2 tc2 tv2 la2 wf2 cs2 ni2 ck2 bd2 => ?_) (fun g' hq => sg_X6_readClause_154 ⟨fun _ => hq, fun z => absurd rfl z⟩)
  exact sg_X6_readClause_154 ⟨fun z => absurd z (by decide), fun _ => ck_nil ck2 tv2 la2 wf2 cs2 ni2⟩
set_option maxHeartbeats 4000000 in
theorem K_w3 {c : Int} {s h g : Hp} (hX : Tx s) (hC : TC (s 114) (s 89 31) g) (tv : TV h g) (la : LA s g) (w5 : g 32 5 = 3) (c6 : g 32 6 = c) (ck : CK Q 3 c h (M_c [(0, 0, fun _ => 1), (1, 1, fun _ => 9)] s)) : Runs G mm_X6_readNumber [vR 32, vI 0, vI 0, vI 1] g (fun r h' => AW G mm_X6_readClause b 170 [(0, vR 32)] (r.toList ++ []) h' Q) := by
  refine K_item (Q := Q) rfl hX hC tv la w5 c6 (fun k k0 k1 => by omega) (by decide) (by decide) ck (fun s0 g0 x0 tc0 tv0 la0 wf0 cs0 ni0 ck0 bd0 => ?_) (fun g' hq => sg_X6_readClause_170 ⟨fun _ => hq, fun z => absurd rfl z⟩)
  refine sg_X6_readClause_170 ⟨fun z => absurd z (by decide), fun _ => ⟨tc0.1.2.2.2.2.2.1.1, ?_⟩⟩
  refine K_item (Q := Q) rfl x0 tc0 tv0 la0 wf0 cs0 ni0 (by decide) (by decide) ck0 (fun s1 g1 x1 tc1 tv1 la1 wf1 cs1 ni1 ck1 bd1 => ?_) (fun g' hq => sg_X6_readClause_181 ⟨fun _ => hq, fun z => absurd rfl z⟩)
  exact sg_X6_readClause_181 ⟨fun z => absurd z (by decide), fun _ => ck_nil ck1 tv1 la1 wf1 cs1 ni1⟩
set_option maxHeartbeats 4000000 in
theorem K_w4 {c : Int} {s h g : Hp} (hX : Tx s) (hC : TC (s 114) (s 89 31) g) (tv : TV h g) (la : LA s g) (w5 : g 32 5 = 4) (c6 : g 32 6 = c) (ck : CK Q 4 c h (M_c [(0, 0, fun _ => 3), (1, 0, fun _ => 3), (2, 0, fun _ => 11)] s)) : Runs G mm_X6_readNumber [vR 32, vI 0, vI 0, vI 3] g (fun r h' => AW G mm_X6_readClause b 197 [(0, vR 32)] (r.toList ++ []) h' Q) := by
  refine K_item (Q := Q) rfl hX hC tv la w5 c6 (fun k k0 k1 => by omega) (by decide) (by decide) ck (fun s0 g0 x0 tc0 tv0 la0 wf0 cs0 ni0 ck0 bd0 => ?_) (fun g' hq => sg_X6_readClause_197 ⟨fun _ => hq, fun z => absurd rfl z⟩)
  refine sg_X6_readClause_197 ⟨fun z => absurd z (by decide), fun _ => ⟨tc0.1.2.2.2.2.2.1.1, ?_⟩⟩
  refine K_item (Q := Q) rfl x0 tc0 tv0 la0 wf0 cs0 ni0 (by decide) (by decide) ck0 (fun s1 g1 x1 tc1 tv1 la1 wf1 cs1 ni1 ck1 bd1 => ?_) (fun g' hq => sg_X6_readClause_207 ⟨fun _ => hq, fun z => absurd rfl z⟩)
  refine sg_X6_readClause_207 ⟨fun z => absurd z (by decide), fun _ => ⟨tc1.1.2.2.2.2.2.1.1, ?_⟩⟩
  refine K_item (Q := Q) rfl x1 tc1 tv1 la1 wf1 cs1 ni1 (by decide) (by decide) ck1 (fun s2 g2 x2 tc2 tv2 la2 wf2 cs2 ni2 ck2 bd2 => ?_) (fun g' hq => sg_X6_readClause_218 ⟨fun _ => hq, fun z => absurd rfl z⟩)
  exact sg_X6_readClause_218 ⟨fun z => absurd z (by decide), fun _ => ck_nil ck2 tv2 la2 wf2 cs2 ni2⟩
set_option maxHeartbeats 4000000 in
theorem K_w5 {c : Int} {s h g : Hp} (hX : Tx s) (hC : TC (s 114) (s 89 31) g) (tv : TV h g) (la : LA s g) (w5 : g 32 5 = 5) (c6 : g 32 6 = c) (ck : CK Q 5 c h (M_c [(0, 0, fun _ => 1)] s)) : Runs G mm_X6_readNumber [vR 32, vI 0, vI 0, vI 1] g (fun r h' => AW G mm_X6_readClause b 234 [] (r.toList ++ []) h' Q) := by
  refine K_item (Q := Q) rfl hX hC tv la w5 c6 (fun k k0 k1 => by omega) (by decide) (by decide) ck (fun s0 g0 x0 tc0 tv0 la0 wf0 cs0 ni0 ck0 bd0 => ?_) (fun g' hq => sg_X6_readClause_234 ⟨Or.inl rfl, hq⟩)
  exact sg_X6_readClause_234 ⟨Or.inr rfl, ck_nil ck0 tv0 la0 wf0 cs0 ni0⟩
set_option maxHeartbeats 4000000 in
theorem K_rcl {σ h : Hp} (hC : TC (σ 114) (σ 89 31) h) (hT : ST σ) (hX : Tx σ) (hL : LA σ h) (ck : CK Q (wdH σ) (h 32 6) h (M_rc σ)) : Runs G mm_X6_readClause [vR 32] h Q := by
  obtain ⟨l1, l2, l3, l4⟩ := hL
  have hX2 := hX
  obtain ⟨⟨x0, x1, x2, x3⟩, x4⟩ := hX
  have hw := wdH_in (σ := σ)
  refine rn_X6_readClause ⟨hC.1.2.2.2.2.2.1.1, ?_⟩
  refine K_next hC rfl l3 l4 (fun g tw g3 g4 => ?_)
  rw [← l1] at g3 g4
  rw [← l2] at g4
  have hCg := hC.v tw.1
  refine sg_X6_readClause_4 ⟨hCg.1.2.2.2.2.2.1.1, ?_⟩
  refine K_word (W := σ 116) hCg (WT_of hT) g3 g4 x0 x1 x2 (fun q q1 q2 => tkB_ch q1 (by rw [← l2]; exact q2)) ?_
  show AW G mm_X6_readClause (0, 0) 9 [(0, vR 32)] [vI (wdH σ), vR 32] g Q
  refine sg_X6_readClause_9 ⟨hCg.1.2.2.2.2.2.1.1, ?_⟩
  simp only [forall_eq]
  rw [wr_e]
  have tv : TV h (wr g 32 5 (wdH σ)) := tw.1.trans (tv_32 (by decide))
  have w5 : wr g 32 5 (wdH σ) 32 5 = wdH σ := wr_e
  have c6 : wr g 32 5 (wdH σ) 32 6 = h 32 6 := by
    rw [wr_k (by decide)]
    exact tw.2.1 6 (by decide)
  have n31 : F_next σ 89 31 = σ 89 31 := next_89 (by decide) (by decide)
  have n114 : F_next σ 114 = σ 114 := next_off (by decide)
  have la : LA (F_next σ) (wr g 32 5 (wdH σ)) := by
    rw [LA, next_32, next_33, n31, n114, wr_k (by decide), g4]
    exact ⟨rfl, rfl, by omega, by omega⟩
  have hC1 : TC (F_next σ 114) (F_next σ 89 31) (wr g 32 5 (wdH σ)) := by
    rw [n31, n114]
    exact hC.v tv
  have g13 : wr g 32 5 (wdH σ) 32 3 = σ 89 32 := by
    rw [wr_k (by decide)]
    exact g3
  generalize wr g 32 5 (wdH σ) = g1 at *
  have E : ¬ wdH σ = -1 → M_rc σ = M_c (spc (wdH σ)) (F_next σ) := fun z => by
    unfold M_rc
    rw [if_neg z]
    rfl
  refine ⟨hCg.1.2.2.2.2.2.1.1, fun q => ?_, fun q => ?_, fun q => ?_, fun q => ?_, fun q => ?_, fun q => ?_, fun q => ?_⟩
  · rw [E (by omega), q] at ck
    exact ck_nil ck tv la (by rw [w5, q]) c6 (fun k k0 k1 => by have k1 : k < 0 := k1; omega)
  · rw [E (by omega), q] at ck
    exact K_w1 hX2.nx hC1 tv la (by rw [w5, q]) c6 ck
  · rw [E (by omega), q] at ck
    exact K_w2 hX2.nx hC1 tv la (by rw [w5, q]) c6 ck
  · rw [E (by omega), q] at ck
    exact K_w3 hX2.nx hC1 tv la (by rw [w5, q]) c6 ck
  · rw [E (by omega), q] at ck
    exact K_w4 hX2.nx hC1 tv la (by rw [w5, q]) c6 ck
  · rw [E (by omega), q] at ck
    exact K_w5 hX2.nx hC1 tv la (by rw [w5, q]) c6 ck
  · have e : M_rc σ = (0, σ) := by
      unfold M_rc
      rw [if_pos (by omega)]
    rw [e] at ck
    exact ck.2 rfl g1 tv g13 c6
end KF
