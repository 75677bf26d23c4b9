/-! the class: old requests, complaints, what comes; packets taken and repeated; a step -/
theorem tag_hit {σ : Hp} {e r i n m : Int} (hI : IV σ n m) (h0 : 0 ≤ e) (h1 : e < 4) (i0 : 0 ≤ i) (i1 : i < σ 104 e) (hr : σ 105 (4 * e + 2 * i) = r) : F_tag (σ 104 e).toNat e r 0 σ = F_snd e 1 r (σ 105 (4 * e + 2 * i + 1)) (-1) σ := by
  have hc := (hI.e e h0 h1).2.2.2.2.2.2.2.2.1
  have hg := hI.g e h0 h1
  rcases (show σ 104 e = 1 ∨ σ 104 e = 2 by omega) with z | z
  · have hi : i = 0 := by omega
    subst hi
    rw [z]
    show (if σ 105 (4 * e + 2 * 0) = r then F_snd e 1 r (σ 105 (4 * e + 2 * 0 + 1)) (-1) σ else σ) = _
    rw [if_pos hr]
  · rw [z]
    have g1 := hg.2 (by omega)
    show F_tag 1 e r (0 + 1) (if σ 105 (4 * e + 2 * 0) = r then F_snd e 1 r (σ 105 (4 * e + 2 * 0 + 1)) (-1) σ else σ) = _
    rcases (show i = 0 ∨ i = 1 by omega) with q | q
    · subst q
      rw [if_pos hr]
      show (if F_snd e 1 r (σ 105 (4 * e + 2 * 0 + 1)) (-1) σ 105 (4 * e + 2 * (0 + 1)) = r then _ else _) = _
      rw [show 4 * e + 2 * 0 = 4 * e by omega] at hr
      rw [snd_off (by decide) (by decide), if_neg (by rw [show 4 * e + 2 * (0 + 1) = 4 * e + 2 by omega]; omega)]
    · subst q
      rw [show 4 * e + 2 * 1 = 4 * e + 2 by omega] at hr
      rw [if_neg (by rw [show 4 * e + 2 * 0 = 4 * e by omega]; omega)]
      show (if σ 105 (4 * e + 2 * (0 + 1)) = r then F_snd e 1 r (σ 105 (4 * e + 2 * (0 + 1) + 1)) (-1) σ else σ) = _
      rw [show 4 * e + 2 * (0 + 1) = 4 * e + 2 by omega, if_pos hr, show 4 * e + 2 * 1 = 4 * e + 2 by omega]
theorem tag_no {e r : Int} : ∀ (k : Nat) (i : Int) (σ : Hp), (∀ x, i ≤ x → x < i + k → ¬ σ 105 (4 * e + 2 * x) = r) → F_tag k e r i σ = σ
  | 0, _, _, _ => rfl
  | k + 1, i, σ, h => by
    show F_tag k e r (i + 1) (if σ 105 (4 * e + 2 * i) = r then _ else σ) = σ
    rw [if_neg (h i (by omega) (by omega))]
    exact tag_no k (i + 1) σ (fun x x0 x1 => h x (by omega) (by omega))
section K7
variable {G : GG} {b : Nat × Nat} {Q : Option VV → Hp → Prop} {ρ σ h : Hp} {n : Int}
set_option maxHeartbeats 4000000 in
theorem Lk_told {e r m m' : Int} (hC : CR ρ n σ h) (hI : IV σ m m') (h0 : 0 ≤ e) (h1 : e < 4) (hk : ∀ t, (t = -1 ∧ F_tag (σ 104 e).toNat e r 0 σ = σ) ∨ (0 ≤ t ∧ t ≤ 9999 ∧ F_tag (σ 104 e).toNat e r 0 σ = F_snd e 1 r t (-1) σ) → Q (some (vI t)) h) : ∀ (k : Nat) (i : Int), 0 ≤ i → i + k = σ 104 e → (∀ x, 0 ≤ x → x < i → ¬ σ 105 (4 * e + 2 * x) = r) → AW G mm_X0_toldOf b 2 [(0, vR (52 + 10 * e)), (1, vI r), (2, vI i)] [] h Q := by
  have hT := hC.T
  have hE := hC.e
  have hc := hg_of hI e h0 h1
  have hg := hI.g e h0 h1
  intro k
  induction k with
  | zero =>
    intro i i0 hi hx
    refine sg_X0_toldOf_2 ?_
    simp (disch := omega) only [hT, hE, true_and]
    exact ⟨fun _ => hk (-1) (Or.inl ⟨rfl, tag_no _ _ _ (fun x x0 x1 => hx x x0 (by omega))⟩), fun q => by omega⟩
  | succ k ih =>
    intro i i0 hi hx
    obtain ⟨c1, c2⟩ := hC.g e i h0 h1 i0 (by omega)
    refine sg_X0_toldOf_2 ?_
    simp (disch := omega) only [hT, hE, true_and, c1, c2]
    refine ⟨fun q => by omega, fun _ => ⟨by omega, by omega, fun q => ⟨by unfold inI; omega, ih (i + 1) (by omega) (by omega) (fun x x0 x1 => ?_)⟩, fun q => ⟨by omega, hk _ (Or.inr ?_)⟩⟩⟩
    · by_cases hxi : x = i
      · rw [hxi]
        exact q
      · exact hx x x0 (by omega)
    · have th := tag_hit hI h0 h1 i0 (by omega) q
      refine ⟨?_, ?_, th⟩
      · rcases (show i = 0 ∨ i = 1 by omega) with z | z
        · subst z
          have := hg.1 (by omega)
          rw [show 4 * e + 2 * 0 + 1 = 4 * e + 1 by omega]
          omega
        · subst z
          have := hg.2 (by omega)
          rw [show 4 * e + 2 * 1 + 1 = 4 * e + 3 by omega]
          omega
      · rcases (show i = 0 ∨ i = 1 by omega) with z | z
        · subst z
          have := hg.1 (by omega)
          rw [show 4 * e + 2 * 0 + 1 = 4 * e + 1 by omega]
          omega
        · subst z
          have := hg.2 (by omega)
          rw [show 4 * e + 2 * 1 + 1 = 4 * e + 3 by omega]
          omega
set_option maxHeartbeats 4000000 in
theorem K_oldreq {e m m' : Int} (hC : CR ρ n σ h) (hI : IV σ m m') (hm : m' ≤ 99990) (h0 : 0 ≤ e) (h1 : e < 4) (hn : n ≤ 990) (hM : CM σ ρ) (ht : σ 117 1 = 0) (hc : Co σ) (h3 : 0 ≤ σ 117 3 ∧ σ 117 3 ≤ 4) (hr : 0 ≤ σ 117 2 ∧ σ 117 2 + 1 ≤ m) (hx : σ 117 2 < σ 98 e) (hk : ∀ g, CR ρ n (F_req e (σ 117 2) (σ 117 3) σ) g → Q none g) : Runs G mm_X1_meetOldRequest [vR (49 + 10 * e), vR 6] h Q := by
  have hT := hC.T
  have o6 := hC.o.2
  have hM2 := hM
  obtain ⟨m0, m9, m1, m2, m8, mR⟩ := hM
  obtain ⟨m3, m4, m5, m6, m7⟩ := mR ht
  have s6 := hT.2.2.2.2.1.2.2.1
  have s52 := (hT.2.2.2.2.2.2.2.2.1 e h0 h1).2.2.2.2.2.2.2.1
  have s52' := (hT.2.2.2.2.2.2.2.2.1 e h0 h1).2.2.2.2.2.2.2.2.2.2.2.2.1
  have hg := hg_of hI e h0 h1
  unfold F_req at hk
  rw [if_neg (by omega)] at hk
  refine rn_X1_meetOldRequest ⟨s6, ?_⟩
  rw [show h 6 5 = σ 117 3 by rw [o6, m3], show h 6 3 = σ 117 2 by rw [o6, m2], s52]
  refine ⟨fun q => ⟨fun q2 => ⟨sh2 hT h0 h1, ?_⟩, fun q2 => ⟨sh2 hT h0 h1, s52', ?_⟩⟩, fun q => ⟨by decide, by decide, sh2 hT h0 h1, ?_⟩⟩
  · rw [if_neg (by omega), if_neg (by omega), if_neg (by omega)] at hk
    exact K_ans hC hI h0 h1 (by decide) (fun g hg => sg_X1_meetOldRequest_56 (hk g hg))
  · rw [if_neg (by omega), if_neg (by omega), if_pos (by omega)] at hk
    refine rn_X0_toldOf ?_
    refine Lk_told hC hI h0 h1 (fun t hq => ?_) (σ 104 e).toNat 0 (by decide) (by omega) (fun x x0 x1 => by omega)
    rcases hq with ⟨rfl, hF⟩ | ⟨t0, t1, hF⟩
    · rw [hF] at hk
      exact sg_X1_meetOldRequest_40 ⟨fun _ => hk h hC, fun z => absurd rfl z⟩
    · rw [hF] at hk
      refine sg_X1_meetOldRequest_40 ⟨fun z => by omega, fun _ => ⟨s6, sh2 hT h0 h1, ?_⟩⟩
      rw [show h 6 3 = σ 117 2 by rw [o6, m2]]
      exact K_ans hC hI h0 h1 (by decide) (fun g hg => sg_X1_meetOldRequest_56 (hk g hg))
  · rw [if_pos (Or.inl q)] at hk
    unfold F_acc at hk
    refine K_reach hC hI hm h0 h1 hn hM2 ht hc (by omega) (by omega) (fun hy g hg => ?_) (fun hy g hg => ?_)
    · rw [if_neg hy] at hk
      exact sg_X1_meetOldRequest_15 ⟨fun _ => hk g hg, fun z => absurd rfl z⟩
    · rw [if_pos hy] at hk
      obtain ⟨iA, iB, iC⟩ := iv_a1 hI hc h0 h1 hy
      have o6g := hg.o.2
      have ha1 : F_a1 e (σ 117 3) σ = σ := by
        unfold F_a1
        rw [if_neg (by omega), if_neg (by omega), if_neg (by omega)]
      rw [if_pos (by omega), ha1] at hg
      rw [ha1] at hk
      unfold F_a2 F_a3 at hk
      rw [if_pos (show σ 117 3 ≤ 2 by omega), if_neg (by omega)] at hk
      rw [if_neg (by omega)]
      refine sg_X1_meetOldRequest_15 ⟨fun z => by omega, fun _ => ⟨hg.T.2.2.2.2.1.2.2.1, sh2 hg.T h0 h1, ?_⟩⟩
      rw [show g 6 3 = σ 117 2 by rw [o6g, m2]]
      exact K_ans hg hI h0 h1 (by decide) (fun g hg => sg_X1_meetOldRequest_56 (hk g hg))
theorem K_cmpl {e m m' : Int} (hC : CR ρ n σ h) (hI : IV σ m m') (h0 : 0 ≤ e) (h1 : e < 4) (hk : ∀ g, CR ρ n (if σ 103 e = 0 then wr (F_snd e 2 (σ 98 e) 0 (-1) σ) 103 e 1 else σ) g → Q none g) : Runs G mm_X1_complain [vR (49 + 10 * e)] h Q := by
  have hT := hC.T
  have hE := hC.e
  refine rn_X1_complain ?_
  simp (disch := omega) only [hT, hE, true_and]
  refine ⟨fun q => ?_, fun q => ?_⟩
  · rw [if_neg q] at hk
    exact hk h hC
  · rw [if_pos q] at hk
    refine K_ans hC hI h0 h1 (by decide) (fun g hg => sg_X1_complain_17 ⟨sh2 hg.T h0 h1, ?_⟩)
    simp only [forall_eq]
    exact hk _ (cr_sc hg h0 h1 (by omega))
set_option maxHeartbeats 4000000 in
theorem K_meet {e m m' : Int} (hC : CR ρ n σ h) (hI : IV σ m m') (hm : m' ≤ 99990) (hn : n ≤ 990) (hM : CM σ ρ) (hCe : Ce σ (m - 1)) (hd : σ 89 28 + 1 ≤ m) (he : e = σ 117 0) (hk : ∀ g, CR ρ n (F_dlv σ) g → Q none g) : Runs G mm_X1_meet [vR (49 + 10 * e), vR 6] h Q := by
  obtain ⟨c0, c1, c2, c3, c8, c9⟩ := hCe
  have h0 : 0 ≤ e := by omega
  have h1 : e < 4 := by omega
  have hT := hC.T
  have hE := hC.e
  have o6 := hC.o.2
  have hM2 := hM
  obtain ⟨m0, m9, m1, m2, m8, mR⟩ := hM
  have s6 := hT.2.2.2.2.1.2.2.1
  unfold F_dlv at hk
  rw [← he] at hk
  refine rn_X1_meet ?_
  simp (disch := omega) only [hT, hE, true_and]
  rw [show h 6 2 = σ 117 1 by rw [o6, m1], show h 6 3 = σ 117 2 by rw [o6, m2]]
  refine ⟨fun q => ⟨fun q1 => ⟨fun q2 => ⟨fun q3 => ⟨by decide, by decide, ?_⟩, fun q3 => ⟨by decide, by decide, ?_⟩⟩, fun q2 => ?_⟩, fun q1 => ⟨by decide, by decide, ?_⟩⟩, fun q => ?_⟩
  · rw [if_pos q, if_pos q1] at hk
    exact K_exp hC hI hm h0 h1 hn hM2 q1 (c3 q1).2 (c3 q1).1 (by omega) hd (by omega) (fun g hg => sg_X1_meet_66 (hk g hg))
  · rw [if_pos q, if_pos q1] at hk
    exact K_oldreq hC hI hm h0 h1 hn hM2 q1 (c3 q1).2 (c3 q1).1 (by omega) (by omega) (fun g hg => sg_X1_meet_58 (hk g hg))
  · rw [if_pos q, if_pos q1] at hk
    unfold F_req at hk
    rw [if_pos q2] at hk
    exact K_cmpl hC hI h0 h1 (fun g hg => sg_X1_meet_39 (hk g hg))
  · rw [if_pos q, if_neg q1] at hk
    exact K_and hC hI hm h0 h1 hn hM2 (by omega) c8 (fun g hg => sg_X1_meet_21 (hk g hg))
  · rw [if_neg q] at hk
    exact hk h hC
/-- row 6 is another one -/
def r6 (ρ g : Hp) : Hp := fun a => if a = 6 then g 6 else ρ a
theorem cr_six {g : Hp} (hC : CR ρ n σ h) (off : ∀ a, a ≠ 6 → g a = h a) (gs : ∀ k, k < 0 → g 6 k = h 6 k) : CR (r6 ρ g) n σ g := by
  refine ⟨⟨⟨fun a a0 a1 => ?_, ?_, fun k k0 => ?_⟩, ?_⟩, CT_of hC.T (fun b y b1 b2 hb => ?_), CB_c (Int.le_refl _) (by rw [off _ (by omega)]) rfl rfl hC.b, Cc_c (fun j j0 j1 => off _ (by omega)) rfl hC.c, Ck_c (fun j k j0 j1 k0 k1 => off _ (by omega)) rfl rfl rfl hC.k, CE_c (fun j j0 j1 => off _ (by omega)) (fun j j0 j1 => off _ (by omega)) rfl rfl rfl rfl rfl rfl rfl rfl rfl rfl rfl hC.e, Cw_c (fun j j0 j1 => off _ (by omega)) (fun a a0 a1 _ => off _ (by omega)) rfl rfl hC.w, Cr_c (fun j j0 j1 => off _ (by omega)) rfl rfl hC.r, Cg_c (fun j j0 j1 => off _ (by omega)) (fun j j0 j1 => off _ (by omega)) rfl rfl hC.g, Cp_c (by rw [off _ (by omega)]) (by rw [off _ (by omega)]) (by rw [off _ (by omega)]) (off _ (by omega)) (off _ (by omega)) (fun a a0 a1 => off _ (by omega)) rfl rfl rfl rfl rfl hC.p, Cd_c (by rw [off _ (by omega)]) (by rw [off _ (by omega)]) rfl hC.d, Cn_c (fun j j0 j1 => by rw [off _ (by omega)]) (fun j j0 j1 => by rw [off _ (by omega)]) (fun j j0 j1 => by rw [off _ (by omega)]) (fun a a0 a1 => off _ (by omega)) (by rw [off _ (by omega)]; omega) rfl rfl rfl hC.n, Cl_c (by rw [off _ (by omega)]) (by rw [off _ (by omega)]) (fun a a0 a1 k k1 => by rw [off _ (by omega)]) (by rw [off _ (by omega)]; omega) rfl rfl hC.l, Cx_c (by rw [off _ (by omega)]) (off _ (by omega)) rfl rfl hC.x⟩
  · unfold r6
    rw [if_neg (by omega), off _ (by omega)]
    exact hC.o.1.1 a a0 a1
  · unfold r6
    rw [if_neg (by decide), off _ (by decide)]
    exact hC.o.1.2.1
  · unfold r6
    rw [if_neg (by decide), off _ (by decide)]
    exact hC.o.1.2.2 k k0
  · unfold r6
    rw [if_pos rfl]
  · by_cases e6 : b = 6
    · subst e6
      exact gs y (by unfold Fx at hb; omega)
    · rw [off b e6]
set_option maxHeartbeats 4000000 in
theorem Lk_first {m m' : Int} (hC : CR ρ n σ h) (hI : IV σ m m') (hc : 1 ≤ σ 89 21) (hk : Q (some (vI (fpi σ))) h) : ∀ (j i : Nat), (i : Int) + 1 + j = σ 89 21 → AW G mm_X7_firstPlace b 4 [(0, vR 4), (1, vI (fpk σ i)), (2, vI ((i : Int) + 1))] [] h Q := by
  have hT := hC.T
  obtain ⟨⟨b1, b1', b1''⟩, b2, b3, b4, b5, b6⟩ := hC.p
  intro j
  induction j with
  | zero =>
    intro i hi
    refine sg_X7_firstPlace_4 ?_
    simp (disch := omega) only [hT, true_and, b1]
    refine ⟨fun _ => ?_, fun q => by omega⟩
    unfold fpi at hk
    rw [show (σ 89 21 - 1).toNat = i by omega] at hk
    exact hk
  | succ j ih =>
    intro i hi
    have fi := fpk_in (σ := σ) i
    have e1 : fpk σ (i + 1) = if σ 109 (11 * ((i : Int) + 1) + 9) - σ 109 (11 * fpk σ i + 9) < 0 then (i : Int) + 1 else fpk σ i := rfl
    have ihk := ih (i + 1) (by omega)
    rw [e1, show ((i + 1 : Nat) : Int) = (i : Int) + 1 from rfl] at ihk
    have p1 := b4 ((i : Int) + 1) (by omega) (by omega)
    have p2 := b4 (fpk σ i) (by omega) (by omega)
    have s1 := hT.2.2.2.2.2.2.2.2.2.1 _ p1.1 p1.2
    have s2 := hT.2.2.2.2.2.2.2.2.2.1 _ p2.1 p2.2
    have d1 := (b6 ((i : Int) + 1) (by omega) (by omega)).2.1
    have d2 := (b6 (fpk σ i) (by omega) (by omega)).2.1
    refine sg_X7_firstPlace_4 ?_
    simp (disch := omega) only [hT, true_and, b1, s1, s2, d1, d2, inI]
    refine ⟨fun q => by omega, fun _ => ⟨fun q => by omega, fun _ => ⟨by omega, by omega, by omega, by omega, fun q => ⟨by omega, ?_⟩, fun q => ⟨by omega, ?_⟩⟩⟩⟩
    · rw [if_neg (by omega)] at ihk
      exact ihk
    · rw [if_pos (by omega)] at ihk
      exact ihk
set_option maxHeartbeats 4000000 in
theorem K_first {m m' : Int} (hC : CR ρ n σ h) (hI : IV σ m m') (hk : Q (some (vI (if σ 89 21 = 0 then -1 else fpi σ))) h) : Runs G mm_X7_firstPlace [vR 4] h Q := by
  have hT := hC.T
  obtain ⟨⟨b1, b1', b1''⟩, b2, b3, b4, b5, b6⟩ := hC.p
  refine rn_X7_firstPlace ?_
  refine sg_X7_firstPlace_4 ?_
  simp (disch := omega) only [hT, true_and, b1]
  refine ⟨fun q => ?_, fun q => ⟨fun _ => ⟨by unfold inI; omega, ?_⟩, fun z => absurd trivial z⟩⟩
  · rw [if_pos (by omega)] at hk
    exact hk
  · rw [if_neg (by omega)] at hk
    exact Lk_first hC hI (by omega) hk (σ 89 21 - 1).toNat 0 (by omega)
set_option maxHeartbeats 4000000 in
theorem Lk_rem {f : Int} (hC : CR ρ n σ h) (f0 : 0 ≤ f) (f1 : f < σ 89 21) (hk : Q none (wr (wr (cpx h 5 f 5 (f + 1) (σ 89 21 - 1 - f)) 4 3 (σ 89 21 - 1)) 5 (σ 89 21 - 1) (h 5 f))) : ∀ (j : Nat) (i : Int), f ≤ i → i + 1 + j = σ 89 21 → AW G mm_X7_removeAt b 9 [(0, vR 4), (2, vR (h 5 f)), (3, vI i)] [] (cpx h 5 f 5 (f + 1) (i - f)) Q := by
  obtain ⟨⟨b1, b1', b1''⟩, b2, b3, b4, b5, b6⟩ := hC.p
  have pf := b4 f f0 (by omega)
  have CTH : ∀ i, CT (cpx h 5 f 5 (f + 1) (i - f)) := fun i => ct_cpx hC.T f0 (fun k k0 => by unfold Fx; omega)
  have U : ∀ i, cpx h 5 f 5 (f + 1) (i - f) 4 3 = σ 89 21 := fun i => by rw [cpx_off (by decide)]; exact b1
  intro j
  induction j with
  | zero =>
    intro i i0 hi
    have hi2 : i = σ 89 21 - 1 := by omega
    subst hi2
    have hT := CTH (σ 89 21 - 1)
    have u := U (σ 89 21 - 1)
    have s := hT.2.2.2.2.2.2.2.2.2.1 _ pf.1 pf.2
    refine sg_X7_removeAt_9 ?_
    simp (disch := omega) only [hT, true_and, u, s, forall_eq, inI]
    exact ⟨by omega, fun _ => ⟨by omega, by omega, hk⟩, fun q => by omega⟩
  | succ j ih =>
    intro i i0 hi
    have hT := CTH i
    have u := U i
    have ai : cpx h 5 f 5 (f + 1) (i - f) 5 (i + 1) = h 5 (i + 1) := cpx_out (by omega)
    have pi := b4 (i + 1) (by omega) (by omega)
    have s := hT.2.2.2.2.2.2.2.2.2.1 _ pi.1 pi.2
    have st : wr (cpx h 5 f 5 (f + 1) (i - f)) 5 i (h 5 (i + 1)) = cpx h 5 f 5 (f + 1) (i + 1 - f) := by
      have := cpx_s (σ := h) (a := 5) (dst := f) (b := 5) (src := f + 1) (n := i - f) (by omega) (by omega)
      rw [show f + (i - f) = i by omega, show f + 1 + (i - f) = i + 1 by omega, show i - f + 1 = i + 1 - f by omega, ai] at this
      exact this
    refine sg_X7_removeAt_9 ?_
    simp (disch := omega) only [hT, true_and, u, ai, s, forall_eq, inI, st]
    exact ⟨by omega, fun q => by omega, fun _ => ⟨by omega, by omega, by omega, by omega, by omega, ih (i + 1) (by omega) (by omega)⟩⟩
/-- a packet less, in class and reference -/
theorem K_remAt {τ : Hp} {f : Int} (hC : CR ρ n σ h) (f0 : 0 ≤ f) (f1 : f < σ 89 21) (t1 : ∀ a, a ≠ 89 → a ≠ 109 → a ≠ 117 → τ a = σ a) (t2 : ∀ k, k ≠ 21 → τ 89 k = σ 89 k) (t3 : τ 89 21 = σ 89 21 - 1) (t4 : ∀ i k, 0 ≤ k → k < 11 → 0 ≤ i → i < f → τ 109 (11 * i + k) = σ 109 (11 * i + k)) (t5 : ∀ i k, 0 ≤ k → k < 11 → f ≤ i → i < σ 89 21 - 1 → τ 109 (11 * i + k) = σ 109 (11 * (i + 1) + k)) (hk : ∀ g, CR ρ n τ g → Q none g) : Runs G mm_X7_removeAt [vR 4, vI f] h Q := by
  have hT := hC.T
  obtain ⟨⟨b1, b1', b1''⟩, b2, b3, b4, b5, b6⟩ := hC.p
  refine rn_X7_removeAt ?_
  simp (disch := omega) only [hT, true_and]
  refine ⟨f0, by omega, ?_⟩
  have L := Lk_rem (G := G) (Q := Q) (b := (0, 0)) hC f0 f1 (hk _ ?_) (σ 89 21 - 1 - f).toNat f (by omega) (by omega)
  · rw [show f - f = 0 by omega, cpx_0] at L
    exact L
  · refine cr_rem hC f0 f1 (fun a a1 a2 => ?_) ?_ (fun k k1 => ?_) (fun k k1 => ?_) (fun i i0 i1 => ?_) t1 t2 t3 t4 t5
    · rw [wr_off a2, wr_off a1, cpx_offr a2]
    · rw [wr_a (by decide), wr_e]
    · rw [wr_a (by decide), wr_k k1, cpx_off (by decide)]
    · rw [wr_k (by omega), wr_a (by decide), cpx_out (by omega)]
    · by_cases z1 : i = σ 89 21 - 1
      · rw [z1, wr_e, if_neg (by omega), if_neg (by omega), if_pos rfl]
      · rw [wr_k z1, wr_a (by decide)]
        by_cases z2 : i < f
        · rw [if_pos z2, cpx_out (by omega)]
        · rw [if_neg z2]
          by_cases z3 : i < σ 89 21 - 1
          · rw [if_pos z3, cpx_in (by omega) (by omega), show i - f + (f + 1) = i + 1 by omega]
          · rw [if_neg z3, if_neg z1, cpx_out (by omega)]
end K7
