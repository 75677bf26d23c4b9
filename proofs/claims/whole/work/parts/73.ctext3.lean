/-! the class: the first fault -/
theorem cl_rc {σ : Hp} {n m : Int} (hI : IV σ n m) (hX : Tx σ) (hd : σ 89 35 = 0) : M_cl σ = M_rc σ := by
  obtain ⟨a1, a2, a3⟩ := rc_st hI hX
  unfold M_cl
  rcases rc_or (σ := σ) with q | q
  · rw [if_pos q, ← q]
  · rw [if_neg (by omega), if_pos (by rw [a3 35 (by decide) (by decide)]; exact hd), ← q]
section KG
variable {G : GG} {b : Nat × Nat} {Q : Option VV → Hp → Prop}
theorem rcl_in {σ : Hp} : (M_rc σ).2 114 = σ 114 ∧ (M_rc σ).2 116 = σ 116 := by
  have mc : ∀ (l : List (Int × Int × (Hp → Int))) (s : Hp), (∀ x, x ∈ l → 0 ≤ x.1) → (M_c l s).2 114 = s 114 ∧ (M_c l s).2 116 = s 116 := by
    intro l
    induction l with
    | nil => exact fun s _ => ⟨rfl, rfl⟩
    | cons x t ih =>
      intro s hl
      obtain ⟨r1, r2, r3⟩ := rd_in (lo := x.2.1) (hi := x.2.2 s) (s := s) (hl x (List.mem_cons_self ..))
      unfold M_c
      split
      · exact ⟨r1, r3⟩
      · obtain ⟨i1, i2⟩ := ih (M_rd x.1 x.2.1 (x.2.2 s) s).2 (fun y hy => hl y (List.mem_cons_of_mem _ hy))
        exact ⟨i1.trans r1, i2.trans r3⟩
  unfold M_rc
  split
  · exact ⟨rfl, rfl⟩
  · obtain ⟨i1, i2⟩ := mc (spc (wdH σ)) (F_next σ) spc_0
    exact ⟨i1.trans (next_off (by decide)), i2.trans (next_off (by decide))⟩
set_option maxHeartbeats 4000000 in
theorem Lc_ff {n m : Int} {h0 : Hp} : ∀ (k : Nat) (r : Int) (s h : Hp), r + k = 24 → 1 ≤ r → IV s n m → Tx s → TC (s 114) (s 89 31) h → TV h0 h → LA s h → s 89 35 = 0 → ((F_ra (k + 1) ((M_cl s).1, wr (M_cl s).2 89 34 r)).1 = 0 → ∀ g, TV h0 g → Q (some (vI ((F_ra (k + 1) ((M_cl s).1, wr (M_cl s).2 89 34 r)).2 89 32))) g) → (¬ (F_ra (k + 1) ((M_cl s).1, wr (M_cl s).2 89 34 r)).1 = 0 → ∀ g, TV h0 g → g 32 6 = (F_ra (k + 1) ((M_cl s).1, wr (M_cl s).2 89 34 r)).2 89 34 → Q (some (vI (-1))) g) → AW G mm_X6_findFault b 6 [(0, vR 32), (1, vI r)] [] h Q := by
  intro k
  induction k with
  | zero =>
    intro r s h hr r1 hI hX hC tv hL hd hk0 hk1
    obtain ⟨a1, a2, a3⟩ := rc_st hI hX
    obtain ⟨t4, t6⟩ := rcl_in (σ := s)
    rw [cl_rc hI hX hd] at hk0 hk1
    refine sg_X6_findFault_6 ⟨fun q => by omega, fun _ => ⟨hC.1.2.2.2.2.2.1.1, ?_⟩⟩
    refine K_rcl hC hI.s hX hL ⟨fun z g b1 b2 b3 b4 b5 => ?_, fun z g b1 b2 b3 => ?_⟩
    · have hCg : TC ((M_rc s).2 114) ((M_rc s).2 89 31) g := by
        rw [t4, a3 31 (by decide) (by decide)]
        exact hC.v b1
      have e1 : (M_rc s).1 = 1 := by
        rcases rc_or (σ := s) with q | q
        · exact absurd q z
        · exact q
      obtain ⟨⟨x0, x1, x2, x3⟩, x4⟩ := a2
      obtain ⟨l1, l2, l3, l4⟩ := b2
      refine sg_X6_findFault_16 ⟨fun _ => ⟨hCg.1.2.2.2.2.2.1.1, ?_⟩, fun z => absurd z (by decide)⟩
      refine K_next hCg rfl l3 l4 (fun g' tw g3 g4 => ?_)
      rw [← l1] at g3 g4
      rw [← l2] at g4
      have hCg2 := hCg.v tw.1
      obtain ⟨hT, hL2, hb, ht⟩ := hCg2
      have hT6 := hT.2.2.2.2.2.1
      have tv2 : TV h0 g' := tv.trans (b1.trans tw.1)
      rw [e1] at hk0 hk1
      have hF : F_ra 1 (1, wr (M_rc s).2 89 34 r) = (if (1 : Int) = 0 then (1, wr (M_rc s).2 89 34 r) else if wr (M_rc s).2 89 34 r 89 31 ≤ wr (M_rc s).2 89 34 r 89 32 then (1, wr (M_rc s).2 89 34 r) else if 24 ≤ wr (M_rc s).2 89 34 r 89 34 ∨ ¬ wr (M_rc s).2 89 34 r 114 (wr (M_rc s).2 89 34 r 89 32) = 59 then (0, wr (M_rc s).2 89 34 r) else _) := rfl
      rw [show 0 + 1 = 1 from rfl, hF, if_neg (by decide), wr_k (by decide), wr_k (by decide), wr_e, wr_a (by decide)] at hk0 hk1
      refine sg_X6_findFault_28 ?_
      rw [hL2, g3, hT6.2.1, hT6.2.2.2.1, hT6.2.2.2.2.1]
      refine ⟨hT6.1, fun q => ⟨rfl, x0, by omega, fun q2 => ⟨by unfold inI; omega, ?_⟩, fun q2 => ?_⟩, fun q => ?_⟩
      · rw [if_neg (by omega), if_pos (Or.inl (by omega))] at hk0
        refine sg_X6_findFault_6 ⟨fun _ => ⟨hT6.1, ?_⟩, fun z => by omega⟩
        rw [g3]
        have := hk0 rfl g' tv2
        dsimp only at this
        rw [wr_k (by decide)] at this
        exact this
      · rw [if_neg (by omega), if_pos (Or.inl (by omega))] at hk0
        have := hk0 rfl g' tv2
        dsimp only at this
        rw [wr_k (by decide)] at this
        exact this
      · rw [if_pos (by omega)] at hk1
        simp only [forall_eq]
        refine hk1 (by dsimp only; decide) _ (tv2.trans (tv_32 (by decide))) ?_
        dsimp only
        rw [wr_e, wr_e]
    · rw [z, ra_0] at hk0
      refine sg_X6_findFault_16 ⟨fun q => absurd rfl q, fun _ => ⟨(hC.v b1).1.2.2.2.2.2.1.1, ?_⟩⟩
      rw [b2]
      have := hk0 rfl g (tv.trans b1)
      dsimp only at this
      rw [wr_k (by decide)] at this
      exact this
  | succ k ih =>
    intro r s h hr r1 hI hX hC tv hL hd hk0 hk1
    obtain ⟨a1, a2, a3⟩ := rc_st hI hX
    obtain ⟨t4, t6⟩ := rcl_in (σ := s)
    rw [cl_rc hI hX hd] at hk0 hk1
    refine sg_X6_findFault_6 ⟨fun q => by omega, fun _ => ⟨hC.1.2.2.2.2.2.1.1, ?_⟩⟩
    refine K_rcl hC hI.s hX hL ⟨fun z g b1 b2 b3 b4 b5 => ?_, fun z g b1 b2 b3 => ?_⟩
    · have hCg : TC ((M_rc s).2 114) ((M_rc s).2 89 31) g := by
        rw [t4, a3 31 (by decide) (by decide)]
        exact hC.v b1
      have e1 : (M_rc s).1 = 1 := by
        rcases rc_or (σ := s) with q | q
        · exact absurd q z
        · exact q
      have a22 := a2
      obtain ⟨⟨x0, x1, x2, x3⟩, x4⟩ := a2
      obtain ⟨l1, l2, l3, l4⟩ := b2
      refine sg_X6_findFault_16 ⟨fun _ => ⟨hCg.1.2.2.2.2.2.1.1, ?_⟩, fun z => absurd z (by decide)⟩
      refine K_next hCg rfl l3 l4 (fun g' tw g3 g4 => ?_)
      rw [← l1] at g3 g4
      rw [← l2] at g4
      have hCg2 := hCg.v tw.1
      have hCg3 := hCg2
      obtain ⟨hT, hL2, hb, ht⟩ := hCg2
      have hT6 := hT.2.2.2.2.2.1
      have tv2 : TV h0 g' := tv.trans (b1.trans tw.1)
      rw [e1] at hk0 hk1
      have hF : F_ra (k + 1 + 1) (1, wr (M_rc s).2 89 34 r) = (if (1 : Int) = 0 then (1, wr (M_rc s).2 89 34 r) else if wr (M_rc s).2 89 34 r 89 31 ≤ wr (M_rc s).2 89 34 r 89 32 then (1, wr (M_rc s).2 89 34 r) else if 24 ≤ wr (M_rc s).2 89 34 r 89 34 ∨ ¬ wr (M_rc s).2 89 34 r 114 (wr (M_rc s).2 89 34 r 89 32) = 59 then (0, wr (M_rc s).2 89 34 r) else F_ra (k + 1) ((M_cl (F_next (wr (M_rc s).2 89 34 r))).1, wr (M_cl (F_next (wr (M_rc s).2 89 34 r))).2 89 34 ((M_cl (F_next (wr (M_rc s).2 89 34 r))).2 89 34 + 1))) := rfl
      rw [hF, if_neg (by decide), wr_k (k := 34) (j := 31) (by decide), wr_k (k := 34) (j := 32) (by decide), wr_e, wr_a (b := 114) (by decide)] at hk0 hk1
      have iw : IV (wr (M_rc s).2 89 34 r) n m := iv_sc a1 (by omega)
      have xw : Tx (wr (M_rc s).2 89 34 r) := Tx_c (fun k k0 k1 => wr_k (by omega)) (wr_off (by decide)) a22
      obtain ⟨d1, d2, d3, d4, d5⟩ := cl_st (iv_next iw) xw.nx
      have d34 : (M_cl (F_next (wr (M_rc s).2 89 34 r))).2 89 34 = r := by rw [d3, next_89 (by decide) (by decide), wr_e]
      refine sg_X6_findFault_28 ?_
      rw [hL2, g3, hT6.2.1, hT6.2.2.2.1, hT6.2.2.2.2.1]
      refine ⟨hT6.1, fun q => ⟨rfl, x0, by omega, fun q2 => ⟨by unfold inI; omega, ?_⟩, fun q2 => ?_⟩, fun q => ?_⟩
      · have tt := (ht ((M_rc s).2 89 32) x0 (by omega)).1
        rw [tt] at q2
        rw [if_neg (by omega), if_neg (by omega), d34] at hk0 hk1
        have n31 : F_next (wr (M_rc s).2 89 34 r) 89 31 = (M_rc s).2 89 31 := by rw [next_89 (by decide) (by decide), wr_k (by decide)]
        have n114 : F_next (wr (M_rc s).2 89 34 r) 114 = (M_rc s).2 114 := by rw [next_off (by decide), wr_off (by decide)]
        refine ih (r + 1) (F_next (wr (M_rc s).2 89 34 r)) g' (by omega) (by omega) (iv_next iw) xw.nx (by rw [n31, n114]; exact hCg3) tv2 ?_ ?_ hk0 hk1
        · rw [LA, next_32, next_33, n31, n114, wr_k (by decide), wr_k (by decide), wr_off (by decide), g4]
          exact ⟨rfl, rfl, by omega, by omega⟩
        · rw [next_89 (by decide) (by decide), wr_k (by decide), a3 35 (by decide) (by decide)]
          exact hd
      · have tt := (ht ((M_rc s).2 89 32) x0 (by omega)).1
        rw [tt] at q2
        rw [if_neg (by omega), if_pos (Or.inr q2)] at hk0
        have := hk0 rfl g' tv2
        dsimp only at this
        rw [wr_k (by decide)] at this
        exact this
      · rw [if_pos (by omega)] at hk1
        simp only [forall_eq]
        refine hk1 (by dsimp only; decide) _ (tv2.trans (tv_32 (by decide))) ?_
        dsimp only
        rw [wr_e, wr_e]
    · rw [z, ra_0] at hk0
      refine sg_X6_findFault_16 ⟨fun q => absurd rfl q, fun _ => ⟨(hC.v b1).1.2.2.2.2.2.1.1, ?_⟩⟩
      rw [b2]
      have := hk0 rfl g (tv.trans b1)
      dsimp only at this
      rw [wr_k (by decide)] at this
      exact this
set_option maxHeartbeats 4000000 in
theorem K_ff {σ h : Hp} {n m : Int} (hC : TC (σ 114) (σ 89 31) h) (hI : IV σ n m) (hk0 : (M_all 0 σ).1 = 0 → ∀ g, TV h g → Q (some (vI ((M_all 0 σ).2 89 32))) g) (hk1 : ¬ (M_all 0 σ).1 = 0 → ∀ g, TV h g → g 32 6 = (M_all 0 σ).2 89 34 → Q (some (vI (-1))) g) : Runs G mm_X6_findFault [vR 32] h Q := by
  obtain ⟨b1, b2, b3, b4, b5, b6⟩ := beg_st (d := 0) hI
  obtain ⟨d1, d2, d3, d4, d5⟩ := cl_st b1 b2
  have tv : TV h (wr (wr h 32 3 0) 32 4 0) := (tv_32 (by decide)).trans (tv_32 (by decide))
  have hX := hI.x
  obtain ⟨y0, y1, y2⟩ := hX
  have e : F_ra 24 ((M_cl (F_beg 0 σ)).1, wr (M_cl (F_beg 0 σ)).2 89 34 1) = M_all 0 σ := by
    rw [wr_same (by rw [d3, b3])]
    rfl
  refine rn_X6_findFault ⟨hC.1.2.2.2.2.2.1.1, ?_⟩
  refine rn_X6_rewind ⟨hC.1.2.2.2.2.2.1.1, ?_⟩
  simp only [forall_eq]
  refine sg_X6_findFault_4 ?_
  refine Lc_ff (h0 := h) 23 1 (F_beg 0 σ) _ (by decide) (by decide) b1 b2 (by rw [b5, b6]; exact hC.v tv) tv ?_ b4 (by rw [e]; exact hk0) (by rw [e]; exact hk1)
  rw [LA, b5, b6, wr_e]
  unfold F_beg
  rw [next_32, next_33]
  have e31 : wr (wr (wr σ 89 35 0) 89 33 0) 89 34 1 89 31 = σ 89 31 := by simp (disch := omega) only [wr_k]
  have e33 : wr (wr (wr σ 89 35 0) 89 33 0) 89 34 1 89 33 = 0 := by simp (disch := omega) only [wr_k, wr_e]
  have e114 : wr (wr (wr σ 89 35 0) 89 33 0) 89 34 1 114 = σ 114 := by simp (disch := omega) only [wr_off]
  rw [e31, e33, e114]
  exact ⟨rfl, rfl, by decide, y0⟩
/-- the same but for where the text is read -/
def PA (σ τ : Hp) : Prop := (∀ a, a ≠ 89 → a ≠ 115 → τ a = σ a) ∧ ∀ k, k < 32 ∨ 35 < k → τ 89 k = σ 89 k
theorem PA.refl {σ : Hp} : PA σ σ := ⟨fun _ _ _ => rfl, fun _ _ => rfl⟩
theorem PA.trans {σ τ υ : Hp} (a : PA σ τ) (c : PA τ υ) : PA σ υ := ⟨fun x x1 x2 => (c.1 x x1 x2).trans (a.1 x x1 x2), fun k k1 => (c.2 k k1).trans (a.2 k k1)⟩
theorem pa_89 {σ : Hp} {k v : Int} (h : 32 ≤ k ∧ k ≤ 35) : PA σ (wr σ 89 k v) := ⟨fun x x1 _ => wr_off x1, fun j j1 => wr_k (by omega)⟩
theorem pa_115 {σ : Hp} {k v : Int} : PA σ (wr σ 115 k v) := ⟨fun x _ x2 => wr_off x2, fun j j1 => wr_a (by decide)⟩
theorem pa_next {σ : Hp} : PA σ (F_next σ) := (pa_89 (by decide)).trans (pa_89 (by decide))
theorem pa_rd {k lo hi : Int} {σ : Hp} : PA σ (M_rd k lo hi σ).2 := by
  unfold M_rd
  (repeat' split) <;> first | exact PA.refl | exact pa_115.trans pa_next
theorem pa_mc : ∀ (l : List (Int × Int × (Hp → Int))) (σ : Hp), PA σ (M_c l σ).2
  | [], _ => PA.refl
  | x :: t, σ => by
    unfold M_c
    split
    · exact pa_rd
    · exact pa_rd.trans (pa_mc t _)
theorem pa_rc {σ : Hp} : PA σ (M_rc σ).2 := by
  unfold M_rc
  split
  · exact PA.refl
  · exact pa_next.trans (pa_mc _ _)
theorem pa_cl {σ : Hp} {n m : Int} (hI : IV σ n m) (hX : Tx σ) (hd : σ 89 35 = 0) : PA σ (M_cl σ).2 := by
  rw [cl_rc hI hX hd]
  exact pa_rc
theorem pa_ra {n m : Int} : ∀ (k : Nat) (s : Int × Hp), IV s.2 n m → Tx s.2 → s.2 89 35 = 0 → PA s.2 (F_ra k s).2
  | 0, s, _, _, _ => PA.refl
  | k + 1, s, hI, hX, hd => by
    unfold F_ra
    split
    · exact PA.refl
    · split
      · exact PA.refl
      · split
        · exact PA.refl
        · have n35 : F_next s.2 89 35 = 0 := by
            rw [next_89 (by decide) (by decide)]
            exact hd
          obtain ⟨d1, d2, d3, d4, d5⟩ := cl_st (iv_next hI) hX.nx
          have hX3 : Tx (wr (M_cl (F_next s.2)).2 89 34 ((M_cl (F_next s.2)).2 89 34 + 1)) := Tx_c (fun k k0 k1 => wr_k (by omega)) (wr_off (by decide)) d2
          have p1 : PA s.2 (wr (M_cl (F_next s.2)).2 89 34 ((M_cl (F_next s.2)).2 89 34 + 1)) := (pa_next.trans (pa_cl (iv_next hI) hX.nx n35)).trans (pa_89 (by decide))
          have e35 : wr (M_cl (F_next s.2)).2 89 34 ((M_cl (F_next s.2)).2 89 34 + 1) 89 35 = 0 := by
            rw [wr_k (by decide), d4]
            exact n35
          exact p1.trans (pa_ra k ((M_cl (F_next s.2)).1, wr (M_cl (F_next s.2)).2 89 34 ((M_cl (F_next s.2)).2 89 34 + 1)) (iv_sc d1 (by omega)) hX3 e35)
theorem pa_beg {σ : Hp} {d : Int} : PA σ (F_beg d σ) := (((pa_89 (by decide)).trans (pa_89 (by decide))).trans (pa_89 (by decide))).trans pa_next
theorem pa_all {σ : Hp} {n m : Int} (hI : IV σ n m) : PA σ (M_all 0 σ).2 := by
  obtain ⟨b1, b2, b3, b4, b5, b6⟩ := beg_st (d := 0) hI
  obtain ⟨d1, d2, d3, d4, d5⟩ := cl_st b1 b2
  exact (pa_beg.trans (pa_cl b1 b2 b4)).trans (pa_ra 24 (M_cl (F_beg 0 σ)) d1 d2 (by rw [d4, b4]))
def rt (ρ g : Hp) : Hp := fun a => if a = 32 then g 32 else if a = 34 then g 34 else ρ a
theorem rt_o {ρ g : Hp} {a : Int} (h1 : a ≠ 32) (h2 : a ≠ 34) : rt ρ g a = ρ a := by
  unfold rt
  rw [if_neg h1, if_neg h2]
theorem cr_txt {ρ σ τ h g : Hp} {n : Int} (hC : CR ρ n σ h) (tv : TV h g) (pa : PA σ τ) : CR (rt ρ g) n τ g := by
  have off : ∀ a, a ≠ 32 → a ≠ 34 → g a = h a := tv.1
  have fs : ∀ a, a ≠ 89 → a ≠ 115 → τ a = σ a := pa.1
  have f9 : ∀ k, k < 32 ∨ 35 < k → τ 89 k = σ 89 k := pa.2
  refine ⟨⟨⟨fun a a0 a1 => ?_, ?_, fun k k0 => ?_⟩, ?_⟩, tv.ct hC.T, CB_c (Int.le_refl _) (by rw [off _ (by decide) (by decide)]) (fs _ (by decide) (by decide)) (fs _ (by decide) (by decide)) hC.b, Cc_c (fun j j0 j1 => off _ (by omega) (by omega)) (fs _ (by decide) (by decide)) hC.c, Ck_c (fun j k j0 j1 k0 k1 => off _ (by omega) (by omega)) (fs _ (by decide) (by decide)) (fs _ (by decide) (by decide)) (fs _ (by decide) (by decide)) hC.k, CE_c (fun j j0 j1 => off _ (by omega) (by omega)) (fun j j0 j1 => off _ (by omega) (by omega)) (fs _ (by decide) (by decide)) (fs _ (by decide) (by decide)) (fs _ (by decide) (by decide)) (fs _ (by decide) (by decide)) (fs _ (by decide) (by decide)) (fs _ (by decide) (by decide)) (fs _ (by decide) (by decide)) (fs _ (by decide) (by decide)) (fs _ (by decide) (by decide)) (fs _ (by decide) (by decide)) (fs _ (by decide) (by decide)) hC.e, Cw_c (fun j j0 j1 => off _ (by omega) (by omega)) (fun a a0 a1 _ => off _ (by omega) (by omega)) (fs _ (by decide) (by decide)) (fs _ (by decide) (by decide)) hC.w, Cr_c (fun j j0 j1 => off _ (by omega) (by omega)) (fs _ (by decide) (by decide)) (fs _ (by decide) (by decide)) hC.r, Cg_c (fun j j0 j1 => off _ (by omega) (by omega)) (fun j j0 j1 => off _ (by omega) (by omega)) (fs _ (by decide) (by decide)) (fs _ (by decide) (by decide)) hC.g, Cp_c (by rw [off _ (by decide) (by decide)]) (by rw [off _ (by decide) (by decide)]) (by rw [off _ (by decide) (by decide)]) (off _ (by decide) (by decide)) (off _ (by decide) (by decide)) (fun a a0 a1 => off _ (by omega) (by omega)) (f9 _ (by decide)) (f9 _ (by decide)) (f9 _ (by decide)) (fs _ (by decide) (by decide)) (fs _ (by decide) (by decide)) hC.p, Cd_c (by rw [off _ (by decide) (by decide)]) (by rw [off _ (by decide) (by decide)]) (f9 _ (by decide)) hC.d, Cn_c (fun j j0 j1 => by rw [off _ (by omega) (by omega)]) (fun j j0 j1 => by rw [off _ (by omega) (by omega)]) (fun j j0 j1 => by rw [off _ (by omega) (by omega)]) (fun a a0 a1 => off _ (by omega) (by omega)) (by rw [off _ (by decide) (by decide)]; omega) (fs _ (by decide) (by decide)) (fs _ (by decide) (by decide)) (fs _ (by decide) (by decide)) hC.n, Cl_c (by rw [off _ (by decide) (by decide)]) (by rw [off _ (by decide) (by decide)]) (fun a a0 a1 k k1 => by rw [off _ (by omega) (by omega)]) (by rw [off _ (by decide) (by decide)]; omega) (f9 _ (by decide)) (fs _ (by decide) (by decide)) hC.l, Cx_c (tv.2.1 2 (by decide)) (off _ (by decide) (by decide)) (f9 _ (by decide)) (fs _ (by decide) (by decide)) hC.x⟩
  · rw [rt_o (by omega) (by omega), off _ (by omega) (by omega)]
    exact hC.o.1.1 a a0 a1
  · rfl
  · rfl
  · rw [rt_o (by decide) (by decide), off _ (by decide) (by decide)]
    exact hC.o.2
theorem TC_of {ρ σ h : Hp} {n m m' : Int} (hC : CR ρ n σ h) (hI : IV σ m m') : TC (σ 114) (σ 89 31) h := by
  obtain ⟨x0, x1, x2⟩ := hI.x
  exact ⟨hC.T, hC.x.1, ⟨x0, x1⟩, fun i i0 i1 => ⟨hC.x.2 i i0 i1, x2 i i0 i1⟩⟩
theorem K_fault {ρ σ h : Hp} {n m m' : Int} (hC : CR ρ n σ h) (hI : IV σ m m') (hk : PQ ρ n Q (M_fault σ)) : Runs G mm_X9_fault [vR 1] h Q := by
  have hT := hC.T
  unfold M_fault at hk
  refine rn_X9_fault ⟨hT.1.1, ?_⟩
  rw [hT.1.2.2.2.2]
  refine ⟨hT.2.2.2.2.2.1.1, K_ff (TC_of hC hI) hI (fun z g tv => ?_) (fun z g tv g6 => ?_)⟩
  · rw [if_pos z] at hk
    exact sg_X9_fault_7 (hk (rt ρ g) g (fun a a0 a1 => rt_o (by omega) (by omega)) ((cr_txt hC tv (pa_all hI)).up (by omega)))
  · rw [if_neg z] at hk
    exact sg_X9_fault_7 (hk (rt ρ g) g (fun a a0 a1 => rt_o (by omega) (by omega)) ((cr_txt hC tv (pa_all hI)).up (by omega)))
end KG
