/-! the constructors: the wire, the whole class -/
section KJ
variable {G : GG} {Q : Option VV → Hp → Prop}
abbrev W4 : Int → Int := ro 8 0 (fun x => if x = 0 then 5 else if x = 1 then 6 else if x = 2 then 7 else 0)
set_option maxHeartbeats 4000000 in
theorem L_i7d {h0 : Hp} {b : Nat × Nat} (hk : ∀ g, g 0 0 = h0 0 0 → (∀ a, a ≠ 7 → g a = h0 a) → g 7 = ro 20 2 (fun x => if 0 ≤ x ∧ x < 2 then 1 else 0) → Q none g) : ∀ (m : Nat) (i : Int) (h : Hp), 0 ≤ i → i + m = 2 → h 0 0 = h0 0 0 → (∀ a, a ≠ 7 → h a = h0 a) → h 4 = W4 → h 7 = ro 20 2 (fun x => if 0 ≤ x ∧ x < i then 1 else 0) → AW G mm_X7_init b 75 [(0, vR 4), (1, vI i)] [] h Q := by
  intro m
  induction m with
  | zero =>
    intro i h i0 hi hT ho r4 r7
    have hi4 : i = 2 := by omega
    subst hi4
    exact sg_X7_init_75 ⟨fun _ => hk h hT ho r7, fun q => by omega⟩
  | succ m ih =>
    intro i h i0 hi hT ho r4 r7
    have e2 : h 4 2 = 7 := by rw [r4]; rfl
    refine sg_X7_init_75 ⟨fun q => by omega, fun _ => ⟨by rw [r4]; exact ro_s, ?_⟩⟩
    rw [e2, r7]
    refine ⟨ro_s, i0, by rw [ro_l]; omega, ?_⟩
    intro h1 e1
    obtain ⟨s1, s2, s3⟩ := stW (by decide) e1
    refine ⟨by unfold inI; omega, ih (i + 1) h1 (by omega) (by omega) (by omega) (fun a ha => by rw [s2 a ha]; exact ho a ha) (by rw [s2 _ (by decide)]; exact r4) ?_⟩
    rw [s3, r7]
    funext x
    simp only [ro]
    (repeat' split) <;> first | rfl | omega
set_option maxHeartbeats 4000000 in
theorem L_i7 {h0 : Hp} (hk : ∀ (b : Nat × Nat) g, g 0 0 = 31 → (∀ a, 1 ≤ a → a < 4 → g a = h0 a) → g 4 = W4 → g 5 = ro 35 24 (fun x => if 0 ≤ x ∧ x < 24 then 8 + x else 0) → g 6 = ro 6 0 Zf → g 7 = ro 20 2 Zf → (∀ i, 0 ≤ i → i < 24 → g (8 + i) = ro 6 0 Zf) → AW G mm_X7_init b 75 [(0, vR 4), (1, vI 0)] [] g Q) : ∀ (m : Nat) (i : Int) (b : Nat × Nat) (h : Hp), 0 ≤ i → i + m = 24 → h 0 0 = 7 + i → (∀ a, 1 ≤ a → a < 4 → h a = h0 a) → h 4 = W4 → h 5 = ro 35 24 (fun x => if 0 ≤ x ∧ x < i then 8 + x else 0) → h 6 = ro 6 0 Zf → h 7 = ro 20 2 Zf → (∀ j, 0 ≤ j → j < i → h (8 + j) = ro 6 0 Zf) → m ≤ b.1 → 10 * m ≤ b.2 → AW G mm_X7_init b 48 [(0, vR 4), (1, vI i)] [] h Q := by
  intro m
  induction m with
  | zero =>
    intro i b h i0 hi hT ho r4 r5 r6 r7 rj hb1 hb2
    have hi4 : i = 24 := by omega
    subst hi4
    exact sg_X7_init_48 ⟨fun _ => hk b h (by omega) ho r4 r5 r6 r7 rj, fun q => by omega⟩
  | succ m ih =>
    intro i b h i0 hi hT ho r4 r5 r6 r7 rj hb1 hb2
    refine sg_X7_init_48 ⟨fun q => by omega, fun _ => ⟨by rw [r4]; exact ro_s, by unfold inI; omega, by omega, by omega, ?_⟩⟩
    intro a6 ea h1 e1
    rw [hT] at ea
    obtain ⟨p1, p2, p3⟩ := stN hT (by omega) e1
    have e2 : h 4 0 = 5 := by rw [r4]; rfl
    rw [e2, ea]
    refine K_i5 p2 ?_
    have q5 : h1 5 = ro 35 24 (fun x => if 0 ≤ x ∧ x < i then 8 + x else 0) := by rw [p3 _ (by omega) (by omega), r5]
    refine sg_X7_init_66 ⟨by rw [q5]; exact ro_s, i0, by rw [q5, ro_l]; omega, by rw [p2]; exact ro_s, ?_⟩
    intro h2 e3
    obtain ⟨s1, s2, s3⟩ := stW (by omega) e3
    refine ⟨by unfold inI; omega, ih (i + 1) _ h2 (by omega) (by omega) (by omega) (fun a a0 a1 => by rw [s2 a (by omega), p3 a a0 (by omega)]; exact ho a a0 a1) (by rw [s2 _ (by decide), p3 _ (by decide) (by omega)]; exact r4) ?_ (by rw [s2 _ (by decide), p3 _ (by decide) (by omega)]; exact r6) (by rw [s2 _ (by decide), p3 _ (by decide) (by omega)]; exact r7) (fun j j0 j1 => ?_) (by show m ≤ b.1 - 1; omega) (by show 10 * m ≤ b.2 - 10; omega)⟩
    · rw [s3, q5]
      funext x
      simp only [ro]
      (repeat' split) <;> first | rfl | omega
    · rw [s2 _ (by omega)]
      by_cases hj : j = i
      · rw [hj, show 8 + i = 7 + i + 1 by omega]
        exact p2
      · rw [p3 _ (by omega) (by omega)]
        exact rj j j0 (by omega)
set_option maxHeartbeats 4000000 in
theorem K_i7 {h : Hp} (hT : h 0 0 = 4) (hr : h 4 = ro 8 0 Zf) (hk : ∀ g, g 0 0 = 31 → (∀ a, 1 ≤ a → a < 4 → g a = h a) → g 4 = W4 → g 5 = ro 35 24 (fun x => if 0 ≤ x ∧ x < 24 then 8 + x else 0) → g 6 = ro 6 0 Zf → g 7 = ro 20 2 (fun x => if 0 ≤ x ∧ x < 2 then 1 else 0) → (∀ i, 0 ≤ i → i < 24 → g (8 + i) = ro 6 0 Zf) → Q none g) : Runs G mm_X7_init [vR 4] h Q := by
  refine Runs.of (by decide +kernel) (Nat.le_of_ble_eq_true rfl) (sg_X7_init_0 (b := (27, 276)) ?_)
  refine ⟨by rw [hr]; exact ro_s, by unfold inI; omega, by decide, by decide, ?_⟩
  intro a7 ea h1 e1 h2 e2
  rw [hT] at ea
  rw [e1, ea] at e2
  obtain ⟨p1, p2, p3, p4⟩ := stA hT (by decide) (by decide) e2
  refine ⟨by unfold inI; omega, by decide, by decide, ?_⟩
  intro a17 eb h3 e3
  rw [p1] at eb
  obtain ⟨q1, q2, q3⟩ := stN p1 (by decide) e3
  rw [eb]
  refine K_i5 q2 ?_
  have g4 : h3 4 = fun x => if x = 0 then 4 + 1 else ro 8 0 Zf x := by rw [q3 4 (by decide) (by decide), p4, hr]
  refine sg_X7_init_21 ⟨by rw [g4]; rfl, ?_⟩
  intro f1 d1
  obtain ⟨x1, y1, z1⟩ := stW (by decide) d1
  refine ⟨by unfold inI; omega, by decide, by decide, ?_⟩
  intro a8 ec f2 d2
  have t6 : f1 0 0 = 6 := by omega
  rw [t6] at ec
  obtain ⟨x2, y2, z2⟩ := stN t6 (by decide) d2
  refine ⟨by rw [z2 4 (by decide) (by decide), z1, g4]; rfl, ?_⟩
  intro f3 d3 f4 d4 f5 d5 f6 d6
  obtain ⟨x3, y3, z3⟩ := stW (by decide) d3
  obtain ⟨x4, y4, z4⟩ := stW (by decide) d4
  obtain ⟨x5, y5, z5⟩ := stW (by decide) d5
  obtain ⟨x6, y6, z6⟩ := stW (by decide) d6
  have off : ∀ a, a ≠ 4 → f6 a = f2 a := fun a ha => by rw [y6 a ha, y5 a ha, y4 a ha, y3 a ha]
  have w4 : f6 4 = W4 := by
    rw [z6, z5, z4, z3, z2 4 (by decide) (by decide), z1, g4, ec]
    funext x
    simp only [W4, ro, Zf]
    (repeat' split) <;> first | rfl | omega
  refine L_i7 (h0 := h) (fun b g k1 k2 k3 k4 k5 k6 k7 => ?_) 24 0 _ f6 (by decide) (by decide) (by omega) (fun a a0 a1 => by rw [off a (by omega), z2 a a0 (by omega), y1 a (by omega), q3 a a0 (by omega), p3 a a0 (by omega) (by omega)]) w4 ?_ (by rw [off _ (by decide), z2 _ (by decide) (by decide), y1 _ (by decide)]; exact q2) (by rw [off _ (by decide)]; exact y2) (fun j j0 j1 => by omega) (by decide) (by decide)
  · refine L_i7d (h0 := g) (fun g2 l1 l2 l3 => ?_) 2 0 g (by decide) (by decide) rfl (fun _ _ => rfl) k3 ?_
    · refine hk g2 (by omega) (fun a a0 a1 => by rw [l2 a (by omega)]; exact k2 a a0 a1) (by rw [l2 _ (by decide)]; exact k3) (by rw [l2 _ (by decide)]; exact k4) (by rw [l2 _ (by decide)]; exact k5) l3 (fun i i0 i1 => by rw [l2 _ (by omega)]; exact k7 i i0 i1)
    · rw [k6]
      funext x
      simp only [ro, Zf]
      (repeat' split) <;> first | rfl | omega
  · rw [off _ (by decide), z2 _ (by decide) (by decide), y1 _ (by decide), q3 _ (by decide) (by decide)]
    have p2 : h2 5 = ro 35 24 Zf := p2
    rw [p2]
    funext x
    simp only [ro, Zf]
    (repeat' split) <;> first | rfl | omega
/-- the class's rows, as they are made -/
def CI (h : Hp) : Prop := (h 4 = W4 ∧ h 5 = ro 35 24 (fun x => if 0 ≤ x ∧ x < 24 then 8 + x else 0) ∧ h 6 = ro 6 0 Zf ∧ h 7 = ro 20 2 (fun x => if 0 ≤ x ∧ x < 2 then 1 else 0) ∧ (∀ i, 0 ≤ i → i < 24 → h (8 + i) = ro 6 0 Zf)) ∧ (h 32 = ro 7 0 (fun x => if x = 0 then 33 else if x = 1 then 34 else if x = 5 then -1 else 0) ∧ h 33 = ro 22 200 Zf ∧ h 34 = ro 20 5 Zf)
def HI (h : Hp) (T : Int) : Prop := h T = ro 3 0 (fun x => if x = 0 then T + 1 else if x = 1 then T + 2 else 0) ∧ h (T + 1) = ro 20 12 Zf ∧ h (T + 2) = ro 33 4 (fun x => if 0 ≤ x ∧ x < 4 then T + 3 + x else 0) ∧ (∀ i, 0 ≤ i → i < 4 → h (T + 3 + i) = ro 4 0 Zf)
def EI (h : Hp) (e : Int) : Prop := h (49 + 10 * e) = ro 2 0 (fun x => if x = 0 then e else if x = 1 then 35 + 7 * (e % 2) else if x = 2 then 4 else if x = 3 then 49 + 10 * e + 1 else if x = 4 then 49 + 10 * e + 2 else if x = 5 then 49 + 10 * e + 3 else 0) ∧ h (49 + 10 * e + 1) = ro 38 4 (fun x => if 0 ≤ x ∧ x < 4 then 49 + 10 * e + 6 + x else 0) ∧ h (49 + 10 * e + 2) = ro 20 3 Zf ∧ h (49 + 10 * e + 3) = ro 1 0 (fun x => if x = 0 then 49 + 10 * e + 4 else if x = 1 then 49 + 10 * e + 5 else 0) ∧ h (49 + 10 * e + 4) = ro 20 2 Zf ∧ h (49 + 10 * e + 5) = ro 20 2 Zf ∧ (∀ i, 0 ≤ i → i < 4 → h (49 + 10 * e + 6 + i) = ro 9 0 Zf)
def O1 : Int → Int := ro 10 0 (fun x => if x = 0 then 2 else if x = 1 then 3 else if x = 2 then 4 else if x = 3 then 32 else 0)
theorem CI.c {h g : Hp} (hC : CI h) (f : ∀ a, 4 ≤ a → a ≤ 34 → g a = h a) : CI g := by
  obtain ⟨⟨a1, a2, a3, a4, a5⟩, b1, b2, b3⟩ := hC
  refine ⟨⟨by rw [f _ (by decide) (by decide)]; exact a1, by rw [f _ (by decide) (by decide)]; exact a2, by rw [f _ (by decide) (by decide)]; exact a3, by rw [f _ (by decide) (by decide)]; exact a4, fun i i0 i1 => by rw [f _ (by omega) (by omega)]; exact a5 i i0 i1⟩, by rw [f _ (by decide) (by decide)]; exact b1, by rw [f _ (by decide) (by decide)]; exact b2, by rw [f _ (by decide) (by decide)]; exact b3⟩
theorem HI.c {h g : Hp} {T : Int} (hC : HI h T) (f : ∀ a, T ≤ a → a ≤ T + 6 → g a = h a) : HI g T := by
  obtain ⟨a1, a2, a3, a4⟩ := hC
  exact ⟨by rw [f _ (by omega) (by omega)]; exact a1, by rw [f _ (by omega) (by omega)]; exact a2, by rw [f _ (by omega) (by omega)]; exact a3, fun i i0 i1 => by rw [f _ (by omega) (by omega)]; exact a4 i i0 i1⟩
theorem EI.c {h g : Hp} {e : Int} (hC : EI h e) (f : ∀ a, 49 + 10 * e ≤ a → a ≤ 49 + 10 * e + 9 → g a = h a) : EI g e := by
  obtain ⟨a1, a2, a3, a4, a5, a6, a7⟩ := hC
  exact ⟨by rw [f _ (by omega) (by omega)]; exact a1, by rw [f _ (by omega) (by omega)]; exact a2, by rw [f _ (by omega) (by omega)]; exact a3, by rw [f _ (by omega) (by omega)]; exact a4, by rw [f _ (by omega) (by omega)]; exact a5, by rw [f _ (by omega) (by omega)]; exact a6, fun i i0 i1 => by rw [f _ (by omega) (by omega)]; exact a7 i i0 i1⟩
set_option maxHeartbeats 4000000 in
theorem L_i9e (hk : ∀ g, g 0 0 = 88 → g 1 = O1 → g 2 = ro 32 2 (fun x => if 0 ≤ x ∧ x < 2 then 35 + 7 * x else 0) → g 3 = ro 31 4 (fun x => if 0 ≤ x ∧ x < 4 then 49 + 10 * x else 0) → CI g → HI g 35 → HI g 42 → (∀ e, 0 ≤ e → e < 4 → EI g e) → Q none g) : ∀ (m : Nat) (e : Int) (b : Nat × Nat) (h : Hp), 0 ≤ e → e + m = 4 → h 0 0 = 48 + 10 * e → h 1 = O1 → h 2 = ro 32 2 (fun x => if 0 ≤ x ∧ x < 2 then 35 + 7 * x else 0) → h 3 = ro 31 4 (fun x => if 0 ≤ x ∧ x < e then 49 + 10 * x else 0) → CI h → HI h 35 → HI h 42 → (∀ i, 0 ≤ i → i < e → EI h i) → 10 * m ≤ b.1 → 58 * m ≤ b.2 → AW G mm_X9_init b 80 [(0, vR 1), (1, vI e)] [] h Q := by
  intro m
  induction m with
  | zero =>
    intro e b h i0 hi hT r1 r2 r3 c1 c2 c3 c4 hb1 hb2
    have hi4 : e = 4 := by omega
    subst hi4
    exact sg_X9_init_80 ⟨fun _ => hk h (by omega) r1 r2 r3 c1 c2 c3 c4, fun q => by omega⟩
  | succ m ih =>
    intro e b h i0 hi hT r1 r2 r3 c1 c2 c3 c4 hb1 hb2
    refine sg_X9_init_80 ⟨fun q => by omega, fun _ => ⟨by rw [r1]; exact ro_s, by unfold inI; omega, by omega, by omega, ?_⟩⟩
    intro a6 ea h1 e1
    rw [hT] at ea
    obtain ⟨p1, p2, p3⟩ := stN hT (by omega) e1
    have e0 : h 1 0 = 2 := by rw [r1]; rfl
    have e1' : h 1 1 = 3 := by rw [r1]; rfl
    have e2 : h 1 2 = 4 := by rw [r1]; rfl
    have q2 : h1 2 = ro 32 2 (fun x => if 0 ≤ x ∧ x < 2 then 35 + 7 * x else 0) := by rw [p3 2 (by decide) (by omega), r2]
    have eh : h1 2 (e % 2) = 35 + 7 * (e % 2) := by
      rw [q2, ro_k (by omega)]
      exact if_pos (by omega)
    rw [e0, e1', e2, ea, eh]
    refine ⟨i0, by rw [q2]; exact ro_s, by omega, by rw [q2, ro_l]; omega, by omega, by omega, ?_⟩
    rw [show 48 + 10 * e + 1 = 49 + 10 * e by omega] at p1 p2 ⊢
    refine K_i1 p1 (by omega) (by omega) p2 (fun g k1 k2 k3 k4 k5 k6 k7 k8 k9 => ?_)
    have q3 : g 3 = ro 31 4 (fun x => if 0 ≤ x ∧ x < e then 49 + 10 * x else 0) := by rw [k2 3 (by decide) (by omega), p3 3 (by decide) (by omega), r3]
    refine sg_X9_init_110 ⟨by rw [q3]; exact ro_s, i0, by rw [q3, ro_l]; omega, by rw [k3]; exact ro_s, ?_⟩
    intro h2 e3
    obtain ⟨s1, s2, s3⟩ := stW (by decide) e3
    have old : ∀ a, 1 ≤ a → a < 49 + 10 * e → a ≠ 3 → h2 a = h a := fun a a0 a1 a2 => by rw [s2 a a2, k2 a a0 a1, p3 a a0 (by omega)]
    have ne : EI g e := ⟨k3, k4, k5, k6, k7, k8, k9⟩
    refine ⟨by unfold inI; omega, ih (e + 1) _ h2 (by omega) (by omega) (by omega) (by rw [old 1 (by decide) (by omega) (by decide)]; exact r1) (by rw [old 2 (by decide) (by omega) (by decide)]; exact r2) ?_ (c1.c (fun a a0 a1 => old a (by omega) (by omega) (by omega))) (c2.c (fun a a0 a1 => old a (by omega) (by omega) (by omega))) (c3.c (fun a a0 a1 => old a (by omega) (by omega) (by omega))) (fun i j0 j1 => ?_) (by show 10 * m ≤ b.1 - 1 - 9; omega) (by show 58 * m ≤ b.2 - 16 - 42; omega)⟩
    · rw [s3, q3]
      funext x
      simp only [ro]
      (repeat' split) <;> first | rfl | omega
    · by_cases hj : i = e
      · rw [hj]
        exact ne.c (fun a a0 a1 => s2 a (by omega))
      · exact (c4 i j0 (by omega)).c (fun a a0 a1 => old a (by omega) (by omega) (by omega))
set_option maxHeartbeats 8000000 in
theorem K_i9 {h : Hp} (hT : h 0 0 = 1) (hr : h 1 = ro 10 0 Zf) (hk : ∀ g, g 0 0 = 88 → g 1 = O1 → g 2 = ro 32 2 (fun x => if 0 ≤ x ∧ x < 2 then 35 + 7 * x else 0) → g 3 = ro 31 4 (fun x => if 0 ≤ x ∧ x < 4 then 49 + 10 * x else 0) → CI g → HI g 35 → HI g 42 → (∀ e, 0 ≤ e → e < 4 → EI g e) → Q none g) : Runs G mm_X9_init [vR 1] h Q := by
  refine Runs.of (by decide +kernel) (Nat.le_of_ble_eq_true rfl) (sg_X9_init_0 (b := (87, 808)) ?_)
  refine ⟨by rw [hr]; exact ro_s, by unfold inI; omega, by decide, by decide, ?_⟩
  intro a7 ea h1 e1 h2 e2
  rw [hT] at ea
  rw [e1, ea] at e2
  obtain ⟨p1, p2, p3, p4⟩ := stA hT (by decide) (by decide) e2
  refine ⟨by unfold inI; omega, by decide, by decide, ?_⟩
  intro a17 eb h3 e3 h4 e4
  rw [p1] at eb
  rw [e3, eb] at e4
  obtain ⟨q1, q2, q3, q4⟩ := stA p1 (by decide) (by decide) e4
  refine ⟨by unfold inI; omega, by decide, by decide, ?_⟩
  intro a28 ec h5 e5
  rw [q1] at ec
  obtain ⟨r1, r2, r3⟩ := stN q1 (by decide) e5
  refine ⟨by decide, by decide, ?_⟩
  rw [ec]
  refine K_i7 r1 r2 (fun g k1 k2 k3 k4 k5 k6 k7 => ?_)
  have g1 : g 1 = fun x => if x = 1 then 3 else if x = 0 then 2 else ro 10 0 Zf x := by
    rw [k2 1 (by decide) (by decide), r3 1 (by decide) (by decide), q4, p4, hr]
    rfl
  have g2 : g 2 = ro 32 2 Zf := by
    rw [k2 2 (by decide) (by decide), r3 2 (by decide) (by decide), q3 2 (by decide) (by decide) (by decide)]
    exact p2
  have g3 : g 3 = ro 31 4 Zf := by
    rw [k2 3 (by decide) (by decide), r3 3 (by decide) (by decide)]
    exact q2
  refine sg_X9_init_28 ⟨by rw [g1]; rfl, ?_⟩
  intro f1 d1
  obtain ⟨x1, y1, z1⟩ := stW (by decide) d1
  refine ⟨by unfold inI; omega, by decide, by decide, ?_⟩
  intro a8 ed f2 d2
  have t31 : f1 0 0 = 31 := by omega
  rw [t31] at ed
  obtain ⟨x2, y2, z2⟩ := stN t31 (by decide) d2
  refine ⟨by decide, by decide, ?_⟩
  rw [ed]
  refine K_i6 x2 y2 (fun g6 l1 l2 l3 l4 l5 => ?_)
  have o6 : ∀ a, 2 ≤ a → a ≤ 31 → g6 a = g a := fun a a0 a1 => by rw [l2 a (by omega) (by omega), z2 a (by omega) (by omega), y1 a (by omega)]
  have g61 : g6 1 = fun x => if x = 2 then 4 else if x = 1 then 3 else if x = 0 then 2 else ro 10 0 Zf x := by
    rw [l2 1 (by decide) (by decide), z2 1 (by decide) (by decide), z1, g1]
    rfl
  refine sg_X9_init_39 ⟨by rw [g61]; rfl, ?_⟩
  intro f3 d3
  obtain ⟨x3, y3, z3⟩ := stW (by decide) d3
  refine ⟨by rw [g61]; rfl, ?_⟩
  intro f4 d4 f5 d5
  obtain ⟨x4, y4, z4⟩ := stW (by decide) d4
  obtain ⟨x5, y5, z5⟩ := stW (by decide) d5
  have off : ∀ a, a ≠ 1 → f5 a = g6 a := fun a ha => by rw [y5 a ha, y4 a ha, y3 a ha]
  have o1 : f5 1 = O1 := by
    rw [z5, z4, z3, g61]
    funext x
    simp only [O1, ro, Zf]
    (repeat' split) <;> first | rfl | omega
  have t34 : f5 0 0 = 34 := by omega
  have ci : CI f5 := ⟨⟨by rw [off _ (by decide), o6 _ (by decide) (by decide)]; exact k3, by rw [off _ (by decide), o6 _ (by decide) (by decide)]; exact k4, by rw [off _ (by decide), o6 _ (by decide) (by decide)]; exact k5, by rw [off _ (by decide), o6 _ (by decide) (by decide)]; exact k6, fun i i0 i1 => by rw [off _ (by omega), o6 _ (by omega) (by omega)]; exact k7 i i0 i1⟩, by rw [off _ (by decide)]; exact l3, by rw [off _ (by decide)]; exact l4, by rw [off _ (by decide)]; exact l5⟩
  have r52 : f5 2 = ro 32 2 Zf := by rw [off _ (by decide), o6 _ (by decide) (by decide)]; exact g2
  have r53 : f5 3 = ro 31 4 Zf := by rw [off _ (by decide), o6 _ (by decide) (by decide)]; exact g3
  have e10 : f5 1 0 = 2 := by rw [o1]; rfl
  -- the first host
  refine sg_X9_init_54 ⟨fun q => by omega, fun _ => ⟨by rw [o1]; exact ro_s, by unfold inI; omega, by decide, by decide, ?_⟩⟩
  intro a6 ef m1 c1
  rw [t34] at ef
  obtain ⟨n1, n2, n3⟩ := stN t34 (by decide) c1
  refine ⟨by decide, by decide, ?_⟩
  rw [ef, e10]
  refine K_i2 n1 (by decide) (by decide) n2 (fun gh v1 v2 v3 v4 v5 v6 => ?_)
  have gh2 : gh 2 = ro 32 2 Zf := by rw [v2 2 (by decide) (by decide), n3 2 (by decide) (by decide)]; exact r52
  refine sg_X9_init_71 ⟨by rw [gh2]; exact ro_s, by decide, by rw [gh2, ro_l]; decide, by rw [v3]; exact ro_s, ?_⟩
  intro m2 c2
  obtain ⟨w1, w2, w3⟩ := stW (by decide) c2
  have old1 : ∀ a, 1 ≤ a → a < 35 → a ≠ 2 → m2 a = f5 a := fun a a0 a1 a2 => by rw [w2 a a2, v2 a a0 (by omega), n3 a a0 (by omega)]
  have hh1 : HI m2 35 := HI.c (h := gh) ⟨v3, v4, v5, v6⟩ (fun a a0 a1 => w2 a (by omega))
  have o1m : m2 1 = O1 := by rw [old1 1 (by decide) (by decide) (by decide)]; exact o1
  have t41 : m2 0 0 = 41 := by omega
  have e10m : m2 1 0 = 2 := by rw [o1m]; rfl
  refine ⟨by unfold inI; omega, ?_⟩
  -- the second host
  refine sg_X9_init_54 ⟨fun q => by omega, fun _ => ⟨by rw [o1m]; exact ro_s, by unfold inI; omega, by decide, by decide, ?_⟩⟩
  intro a9 eg m3 c3
  rw [t41] at eg
  obtain ⟨n4, n5, n6⟩ := stN t41 (by decide) c3
  refine ⟨by decide, by decide, ?_⟩
  rw [eg, e10m]
  refine K_i2 n4 (by decide) (by decide) n5 (fun gk v7 v8 v9 v10 v11 v12 => ?_)
  have gk2 : gk 2 = fun j => if j = 0 then 34 + 1 else ro 32 2 Zf j := by rw [v8 2 (by decide) (by decide), n6 2 (by decide) (by decide), w3, gh2]
  refine sg_X9_init_71 ⟨by rw [gk2]; rfl, by decide, by rw [gk2]; decide, by rw [v9]; exact ro_s, ?_⟩
  intro m4 c4
  obtain ⟨w4, w5, w6⟩ := stW (by decide) c4
  have old2 : ∀ a, 1 ≤ a → a < 42 → a ≠ 2 → m4 a = m2 a := fun a a0 a1 a2 => by rw [w5 a a2, v8 a a0 (by omega), n6 a a0 (by omega)]
  have hh2 : HI m4 42 := HI.c (h := gk) ⟨v9, v10, v11, v12⟩ (fun a a0 a1 => w5 a (by omega))
  refine ⟨by unfold inI; omega, ?_⟩
  refine sg_X9_init_54 ⟨fun _ => ?_, fun q => by omega⟩
  refine L_i9e hk 4 0 _ m4 (by decide) (by decide) (by omega) (by rw [old2 1 (by decide) (by decide) (by decide)]; exact o1m) ?_ ?_ (ci.c (fun a a0 a1 => by rw [old2 a (by omega) (by omega) (by omega), old1 a (by omega) (by omega) (by omega)])) (hh1.c (fun a a0 a1 => old2 a (by omega) (by omega) (by omega))) hh2 (fun i j0 j1 => by omega) (by decide) (by decide)
  · rw [w6, gk2]
    funext x
    simp only [ro, Zf]
    (repeat' split) <;> first | rfl | omega
  · rw [old2 3 (by decide) (by decide) (by decide), old1 3 (by decide) (by decide) (by decide), r53]
    funext x
    simp only [ro, Zf]
    (repeat' split) <;> first | rfl | omega
end KJ
