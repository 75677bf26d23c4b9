/-! the constructors: objects and rows, made one by one -/
def ro (c n : Int) (f : Int → Int) : Int → Int := fun x => if x = -1 then c else if x = -2 then n else f x
def Zf : Int → Int := fun _ => 0
theorem ro_s {c n : Int} {f : Int → Int} : ro c n f (-1) = c := if_pos rfl
theorem ro_l {c n : Int} {f : Int → Int} : ro c n f (-2) = n := by
  unfold ro
  rw [if_neg (by decide), if_pos rfl]
theorem ro_k {c n k : Int} {f : Int → Int} (h : 0 ≤ k) : ro c n f k = f k := by
  unfold ro
  rw [if_neg (by omega), if_neg (by omega)]
theorem nw_rw {h : Hp} {T c n : Int} (hT : h 0 0 = T) : nw h c n (T + 1) = ro c n Zf := by
  funext x
  rw [← hT, nw_new]
  rfl
theorem nw_o {h : Hp} {T c n a : Int} (hT : h 0 0 = T) (a1 : 1 ≤ a) (a2 : a ≤ T) : nw h c n a = h a := nw_row (by omega) a1
theorem nw_t {h : Hp} {T c n : Int} (hT : h 0 0 = T) (t0 : 0 ≤ T) : nw h c n 0 0 = T + 1 := by
  rw [nw_top (by omega), hT]
theorem stA {h h2 : Hp} {T v k c n : Int} (hT : h 0 0 = T) (v1 : 1 ≤ v) (v2 : v ≤ T) (e : h2 = wr (nw h c n) v k (T + 1)) : h2 0 0 = T + 1 ∧ h2 (T + 1) = ro c n Zf ∧ (∀ a, 1 ≤ a → a ≤ T → a ≠ v → h2 a = h a) ∧ h2 v = fun x => if x = k then T + 1 else h v x := by
  subst e
  refine ⟨by rw [wr_top v1, nw_t hT (by omega)], by rw [wr_off (by omega), nw_rw hT], fun a a1 a2 a3 => by rw [wr_off a3, nw_o hT a1 a2], ?_⟩
  rw [wr_row, nw_o hT v1 v2]
theorem stW {h h2 : Hp} {v k x : Int} (v1 : 1 ≤ v) (e : h2 = wr h v k x) : h2 0 0 = h 0 0 ∧ (∀ a, a ≠ v → h2 a = h a) ∧ h2 v = fun j => if j = k then x else h v j := by
  subst e
  exact ⟨wr_top v1, fun a ha => wr_off ha, wr_row⟩
theorem stN {h h2 : Hp} {T c n : Int} (hT : h 0 0 = T) (t0 : 0 ≤ T) (e : h2 = nw h c n) : h2 0 0 = T + 1 ∧ h2 (T + 1) = ro c n Zf ∧ ∀ a, 1 ≤ a → a ≤ T → h2 a = h a := by
  subst e
  exact ⟨nw_t hT t0, nw_rw hT, fun a a1 a2 => nw_o hT a1 a2⟩
/-- a number 0 written where it stands -/
theorem wr_0 {h : Hp} {a k c n : Int} (hr : h a = ro c n Zf) (hk : 0 ≤ k) : wr h a k 0 = h := wr_same (by rw [hr, ro_k hk]; rfl)
section KI
variable {G : GG} {Q : Option VV → Hp → Prop} {h : Hp}
theorem K_i3 {a : Int} (hr : h a = ro 4 0 Zf) (hk : Q none h) : Runs G mm_X3_init [vR a] h Q := by
  refine rn_X3_init ⟨by rw [hr]; exact ro_s, ?_⟩
  simp only [forall_eq]
  rw [wr_0 hr (by decide), wr_0 hr (by decide), wr_0 hr (by decide), wr_0 hr (by decide)]
  exact hk
theorem K_i8 {a : Int} (hr : h a = ro 9 0 Zf) (hk : Q none h) : Runs G mm_X8_init [vR a] h Q := by
  refine rn_X8_init ⟨by rw [hr]; exact ro_s, ?_⟩
  simp only [forall_eq]
  rw [wr_0 hr (by decide), wr_0 hr (by decide), wr_0 hr (by decide), wr_0 hr (by decide), wr_0 hr (by decide), wr_0 hr (by decide), wr_0 hr (by decide)]
  exact hk
theorem K_i5 {a : Int} (hr : h a = ro 6 0 Zf) (hk : Q none h) : Runs G mm_X5_init [vR a] h Q := by
  refine rn_X5_init ⟨by rw [hr]; exact ro_s, ?_⟩
  simp only [forall_eq]
  rw [wr_0 hr (by decide), wr_0 hr (by decide), wr_0 hr (by decide), wr_0 hr (by decide), wr_0 hr (by decide), wr_0 hr (by decide), wr_0 hr (by decide), wr_0 hr (by decide), wr_0 hr (by decide), wr_0 hr (by decide)]
  exact hk
theorem K_i0 {c : Int} (hT : h 0 0 = c) (c0 : 1 ≤ c) (c1 : c ≤ 2000) (hr : h c = ro 1 0 Zf) (hk : ∀ g, g 0 0 = c + 2 → (∀ a, 1 ≤ a → a < c → g a = h a) → g c = ro 1 0 (fun x => if x = 0 then c + 1 else if x = 1 then c + 2 else 0) → g (c + 1) = ro 20 2 Zf → g (c + 2) = ro 20 2 Zf → Q none g) : Runs G mm_X0_init [vR c] h Q := by
  refine rn_X0_init ⟨by rw [hr]; exact ro_s, by unfold inI; omega, by decide, by decide, ?_⟩
  intro a7 ea h1 e1 h2 e2
  rw [hT] at ea
  rw [e1, ea] at e2
  obtain ⟨p1, p2, p3, p4⟩ := stA hT c0 (Int.le_refl _) e2
  refine ⟨by unfold inI; omega, by decide, by decide, ?_⟩
  intro a17 eb h3 e3 h4 e4 h5 e5
  rw [p1] at eb
  rw [e3, eb] at e4
  obtain ⟨q1, q2, q3, q4⟩ := stA p1 c0 (by omega) e4
  obtain ⟨r1, r2, r3⟩ := stW c0 e5
  refine hk h5 (by omega) (fun a a0 a1 => by rw [r2 a (by omega), q3 a a0 (by omega) (by omega), p3 a a0 (by omega) (by omega)]) ?_ (by rw [r2 _ (by omega), q3 _ (by omega) (by omega) (by omega), p2]) (by rw [r2 _ (by omega), show c + 2 = c + 1 + 1 by omega, q2])
  rw [r3, q4, p4, hr]
  funext x
  simp only [ro, Zf]
  (repeat' split) <;> first | rfl | omega
theorem K_i6 (hT : h 0 0 = 32) (hr : h 32 = ro 7 0 Zf) (hk : ∀ g, g 0 0 = 34 → (∀ a, 1 ≤ a → a < 32 → g a = h a) → g 32 = ro 7 0 (fun x => if x = 0 then 33 else if x = 1 then 34 else if x = 5 then -1 else 0) → g 33 = ro 22 200 Zf → g 34 = ro 20 5 Zf → Q none g) : Runs G mm_X6_init [vR 32] h Q := by
  refine rn_X6_init ⟨by rw [hr]; exact ro_s, by unfold inI; omega, by decide, by decide, ?_⟩
  intro a7 ea h1 e1 h2 e2
  rw [hT] at ea
  rw [e1, ea] at e2
  obtain ⟨p1, p2, p3, p4⟩ := stA hT (by decide) (Int.le_refl _) e2
  refine ⟨by unfold inI; omega, by decide, by decide, ?_⟩
  intro a17 eb h3 e3 h4 e4 h5 e5 h6 e6 h7 e7 h8 e8 h9 e9
  rw [p1] at eb
  rw [e3, eb] at e4
  obtain ⟨q1, q2, q3, q4⟩ := stA p1 (by decide) (by decide) e4
  obtain ⟨r1, r2, r3⟩ := stW (by decide) e5
  obtain ⟨s1, s2, s3⟩ := stW (by decide) e6
  obtain ⟨t1, t2, t3⟩ := stW (by decide) e7
  obtain ⟨u1, u2, u3⟩ := stW (by decide) e8
  obtain ⟨w1, w2, w3⟩ := stW (by decide) e9
  refine hk h9 (by omega) (fun a a0 a1 => by rw [w2 a (by omega), u2 a (by omega), t2 a (by omega), s2 a (by omega), r2 a (by omega), q3 a a0 (by omega) (by omega), p3 a a0 (by omega) (by omega)]) ?_ (by rw [w2 _ (by decide), u2 _ (by decide), t2 _ (by decide), s2 _ (by decide), r2 _ (by decide), q3 _ (by decide) (by decide) (by decide)]; exact p2) (by rw [w2 _ (by decide), u2 _ (by decide), t2 _ (by decide), s2 _ (by decide), r2 _ (by decide)]; exact q2)
  rw [w3, u3, t3, s3, r3, q4, p4, hr]
  funext x
  simp only [ro, Zf]
  (repeat' split) <;> first | rfl | omega
set_option maxHeartbeats 4000000 in
theorem L_i2 {T : Int} {h0 : Hp} (t0 : 1 ≤ T) (t1 : T ≤ 1000) (hk : ∀ g, g 0 0 = T + 6 → (∀ a, 1 ≤ a → a < T → g a = h0 a) → g T = ro 3 0 (fun x => if x = 0 then T + 1 else if x = 1 then T + 2 else 0) → g (T + 1) = ro 20 12 Zf → g (T + 2) = ro 33 4 (fun x => if 0 ≤ x ∧ x < 4 then T + 3 + x else 0) → (∀ i, 0 ≤ i → i < 4 → g (T + 3 + i) = ro 4 0 Zf) → Q none g) : ∀ (m : Nat) (i : Int) (b : Nat × Nat) (h : Hp), 0 ≤ i → i + m = 4 → h 0 0 = T + 2 + i → (∀ a, 1 ≤ a → a < T → h a = h0 a) → h T = ro 3 0 (fun x => if x = 0 then T + 1 else if x = 1 then T + 2 else 0) → h (T + 1) = ro 20 12 Zf → h (T + 2) = ro 33 4 (fun x => if 0 ≤ x ∧ x < i then T + 3 + x else 0) → (∀ j, 0 ≤ j → j < i → h (T + 3 + j) = ro 4 0 Zf) → m ≤ b.1 → 4 * m ≤ b.2 → AW G mm_X2_init b 42 [(0, vR T), (1, vI i)] [] h Q := by
  intro m
  induction m with
  | zero =>
    intro i b h i0 hi hT ho r0 r1 r2 rj hb1 hb2
    have hi4 : i = 4 := by omega
    subst hi4
    exact sg_X2_init_42 ⟨fun _ => hk h (by omega) ho r0 r1 r2 rj, fun q => by omega⟩
  | succ m ih =>
    intro i b h i0 hi hT ho r0 r1 r2 rj hb1 hb2
    refine sg_X2_init_42 ⟨fun q => by omega, fun _ => ⟨by rw [r0]; exact ro_s, by unfold inI; omega, by omega, by omega, ?_⟩⟩
    intro a6 ea h1 e1
    rw [hT] at ea
    obtain ⟨p1, p2, p3⟩ := stN hT (by omega) e1
    have e2 : h T 1 = T + 2 := by rw [r0, ro_k (by decide)]; rfl
    rw [e2, ea]
    refine K_i3 p2 ?_
    have q2 : h1 (T + 2) = ro 33 4 (fun x => if 0 ≤ x ∧ x < i then T + 3 + x else 0) := by rw [p3 _ (by omega) (by omega), r2]
    refine sg_X2_init_59 ⟨by rw [q2]; exact ro_s, i0, by rw [q2, ro_l]; omega, by rw [p2]; exact ro_s, ?_⟩
    intro h2 e3
    obtain ⟨s1, s2, s3⟩ := stW (by omega) e3
    refine ⟨by unfold inI; omega, ih (i + 1) _ h2 (by omega) (by omega) (by omega) (fun a a0 a1 => by rw [s2 a (by omega), p3 a a0 (by omega)]; exact ho a a0 a1) (by rw [s2 _ (by omega), p3 _ t0 (by omega)]; exact r0) (by rw [s2 _ (by omega), p3 _ (by omega) (by omega)]; exact r1) ?_ (fun j j0 j1 => ?_) (by show m ≤ b.1 - 1; omega) (by show 4 * m ≤ b.2 - 4; omega)⟩
    · rw [s3, q2]
      funext x
      simp only [ro]
      (repeat' split) <;> first | rfl | omega
    · rw [s2 _ (by omega)]
      by_cases hj : j = i
      · rw [hj, show T + 3 + i = T + 2 + i + 1 by omega]
        exact p2
      · rw [p3 _ (by omega) (by omega)]
        exact rj j j0 (by omega)
set_option maxHeartbeats 4000000 in
theorem K_i2 {T : Int} (hT : h 0 0 = T) (t0 : 1 ≤ T) (t1 : T ≤ 1000) (hr : h T = ro 3 0 Zf) (hk : ∀ g, g 0 0 = T + 6 → (∀ a, 1 ≤ a → a < T → g a = h a) → g T = ro 3 0 (fun x => if x = 0 then T + 1 else if x = 1 then T + 2 else 0) → g (T + 1) = ro 20 12 Zf → g (T + 2) = ro 33 4 (fun x => if 0 ≤ x ∧ x < 4 then T + 3 + x else 0) → (∀ i, 0 ≤ i → i < 4 → g (T + 3 + i) = ro 4 0 Zf) → Q none g) : Runs G mm_X2_init [vR T] h Q := by
  refine rn_X2_init ⟨by rw [hr]; exact ro_s, by unfold inI; omega, by decide, by decide, ?_⟩
  intro a7 ea h1 e1 h2 e2
  rw [hT] at ea
  rw [e1, ea] at e2
  obtain ⟨p1, p2, p3, p4⟩ := stA hT t0 (Int.le_refl _) e2
  refine ⟨by unfold inI; omega, by decide, by decide, ?_⟩
  intro a17 eb h3 e3 h4 e4 h5 e5 h6 e6 h7 e7 h8 e8
  rw [p1] at eb
  rw [e3, eb] at e4
  obtain ⟨q1, q2, q3, q4⟩ := stA p1 t0 (by omega) e4
  obtain ⟨r1, r2, r3⟩ := stW t0 e5
  obtain ⟨s1, s2, s3⟩ := stW t0 e6
  obtain ⟨u1, u2, u3⟩ := stW t0 e7
  obtain ⟨w1, w2, w3⟩ := stW t0 e8
  refine L_i2 (h0 := h) t0 t1 hk 4 0 _ h8 (by decide) (by decide) (by omega) (fun a a0 a1 => by rw [w2 a (by omega), u2 a (by omega), s2 a (by omega), r2 a (by omega), q3 a a0 (by omega) (by omega), p3 a a0 (by omega) (by omega)]) ?_ (by rw [w2 _ (by omega), u2 _ (by omega), s2 _ (by omega), r2 _ (by omega), q3 _ (by omega) (by omega) (by omega)]; exact p2) ?_ (fun j j0 j1 => by omega) (by decide) (by decide)
  · rw [w3, u3, s3, r3, q4, p4, hr]
    funext x
    simp only [ro, Zf]
    (repeat' split) <;> first | rfl | omega
  · rw [w2 _ (by omega), u2 _ (by omega), s2 _ (by omega), r2 _ (by omega), show T + 2 = T + 1 + 1 by omega, q2]
    funext x
    simp only [ro, Zf]
    (repeat' split) <;> first | rfl | omega
set_option maxHeartbeats 4000000 in
theorem L_i1 {E e ho wi : Int} {h0 : Hp} (t0 : 1 ≤ E) (t1 : E ≤ 1000) (hk : ∀ g, g 0 0 = E + 9 → (∀ a, 1 ≤ a → a < E → g a = h0 a) → g E = ro 2 0 (fun x => if x = 0 then e else if x = 1 then ho else if x = 2 then wi else if x = 3 then E + 1 else if x = 4 then E + 2 else if x = 5 then E + 3 else 0) → g (E + 1) = ro 38 4 (fun x => if 0 ≤ x ∧ x < 4 then E + 6 + x else 0) → g (E + 2) = ro 20 3 Zf → g (E + 3) = ro 1 0 (fun x => if x = 0 then E + 4 else if x = 1 then E + 5 else 0) → g (E + 4) = ro 20 2 Zf → g (E + 5) = ro 20 2 Zf → (∀ i, 0 ≤ i → i < 4 → g (E + 6 + i) = ro 9 0 Zf) → Q none g) : ∀ (m : Nat) (i : Int) (b : Nat × Nat) (h : Hp), 0 ≤ i → i + m = 4 → h 0 0 = E + 5 + i → (∀ a, 1 ≤ a → a < E → h a = h0 a) → h E = ro 2 0 (fun x => if x = 0 then e else if x = 1 then ho else if x = 2 then wi else if x = 3 then E + 1 else if x = 4 then E + 2 else if x = 5 then E + 3 else 0) → h (E + 1) = ro 38 4 (fun x => if 0 ≤ x ∧ x < i then E + 6 + x else 0) → h (E + 2) = ro 20 3 Zf → h (E + 3) = ro 1 0 (fun x => if x = 0 then E + 4 else if x = 1 then E + 5 else 0) → h (E + 4) = ro 20 2 Zf → h (E + 5) = ro 20 2 Zf → (∀ j, 0 ≤ j → j < i → h (E + 6 + j) = ro 9 0 Zf) → m ≤ b.1 → 7 * m ≤ b.2 → AW G mm_X1_init b 98 [(0, vR E), (4, vI i)] [] h Q := by
  intro m
  induction m with
  | zero =>
    intro i b h i0 hi hT hO r0 r1 r2 r3 r4 r5 rj hb1 hb2
    have hi4 : i = 4 := by omega
    subst hi4
    exact sg_X1_init_98 ⟨fun _ => hk h (by omega) hO r0 r1 r2 r3 r4 r5 rj, fun q => by omega⟩
  | succ m ih =>
    intro i b h i0 hi hT hO r0 r1 r2 r3 r4 r5 rj hb1 hb2
    refine sg_X1_init_98 ⟨fun q => by omega, fun _ => ⟨by rw [r0]; exact ro_s, by unfold inI; omega, by omega, by omega, ?_⟩⟩
    intro a6 ea h1 e1
    rw [hT] at ea
    obtain ⟨p1, p2, p3⟩ := stN hT (by omega) e1
    have e2 : h E 3 = E + 1 := by rw [r0, ro_k (by decide)]; rfl
    rw [e2, ea]
    refine K_i8 p2 ?_
    have q2 : h1 (E + 1) = ro 38 4 (fun x => if 0 ≤ x ∧ x < i then E + 6 + x else 0) := by rw [p3 _ (by omega) (by omega), r1]
    refine sg_X1_init_117 ⟨by rw [q2]; exact ro_s, i0, by rw [q2, ro_l]; omega, by rw [p2]; exact ro_s, ?_⟩
    intro h2 e3
    obtain ⟨s1, s2, s3⟩ := stW (by omega) e3
    refine ⟨by unfold inI; omega, ih (i + 1) _ h2 (by omega) (by omega) (by omega) (fun a a0 a1 => by rw [s2 a (by omega), p3 a a0 (by omega)]; exact hO a a0 a1) (by rw [s2 _ (by omega), p3 _ t0 (by omega)]; exact r0) ?_ (by rw [s2 _ (by omega), p3 _ (by omega) (by omega)]; exact r2) (by rw [s2 _ (by omega), p3 _ (by omega) (by omega)]; exact r3) (by rw [s2 _ (by omega), p3 _ (by omega) (by omega)]; exact r4) (by rw [s2 _ (by omega), p3 _ (by omega) (by omega)]; exact r5) (fun j j0 j1 => ?_) (by show m ≤ b.1 - 1; omega) (by show 7 * m ≤ b.2 - 7; omega)⟩
    · rw [s3, q2]
      funext x
      simp only [ro]
      (repeat' split) <;> first | rfl | omega
    · rw [s2 _ (by omega)]
      by_cases hj : j = i
      · rw [hj, show E + 6 + i = E + 5 + i + 1 by omega]
        exact p2
      · rw [p3 _ (by omega) (by omega)]
        exact rj j j0 (by omega)
set_option maxHeartbeats 8000000 in
theorem K_i1 {E e ho wi : Int} (hT : h 0 0 = E) (t0 : 1 ≤ E) (t1 : E ≤ 1000) (hr : h E = ro 2 0 Zf) (hk : ∀ g, g 0 0 = E + 9 → (∀ a, 1 ≤ a → a < E → g a = h a) → g E = ro 2 0 (fun x => if x = 0 then e else if x = 1 then ho else if x = 2 then wi else if x = 3 then E + 1 else if x = 4 then E + 2 else if x = 5 then E + 3 else 0) → g (E + 1) = ro 38 4 (fun x => if 0 ≤ x ∧ x < 4 then E + 6 + x else 0) → g (E + 2) = ro 20 3 Zf → g (E + 3) = ro 1 0 (fun x => if x = 0 then E + 4 else if x = 1 then E + 5 else 0) → g (E + 4) = ro 20 2 Zf → g (E + 5) = ro 20 2 Zf → (∀ i, 0 ≤ i → i < 4 → g (E + 6 + i) = ro 9 0 Zf) → Q none g) : Runs G mm_X1_init [vR E, vI e, vR ho, vR wi] h Q := by
  refine rn_X1_init ⟨by rw [hr]; exact ro_s, by unfold inI; omega, by decide, by decide, ?_⟩
  intro a7 ea h1 e1 h2 e2
  rw [hT] at ea
  rw [e1, ea] at e2
  obtain ⟨p1, p2, p3, p4⟩ := stA hT t0 (Int.le_refl _) e2
  refine ⟨by unfold inI; omega, by decide, by decide, ?_⟩
  intro a17 eb h3 e3 h4 e4
  rw [p1] at eb
  rw [e3, eb] at e4
  obtain ⟨q1, q2, q3, q4⟩ := stA p1 t0 (by omega) e4
  refine ⟨by unfold inI; omega, by decide, by decide, ?_⟩
  intro a28 ec h5 e5
  rw [q1] at ec
  obtain ⟨r1, r2, r3⟩ := stN q1 (by omega) e5
  refine ⟨by decide, by decide, ?_⟩
  rw [ec]
  refine K_i0 r1 (by omega) (by omega) r2 (fun g k1 k2 k3 k4 k5 => ?_)
  have gE : g E = fun x => if x = 4 then E + 1 + 1 else if x = 3 then E + 1 else ro 2 0 Zf x := by
    rw [k2 E t0 (by omega), r3 E t0 (by omega), q4, p4, hr]
  refine sg_X1_init_27 ⟨by rw [gE]; rfl, ?_⟩
  intro f1 d1
  obtain ⟨x1, y1, z1⟩ := stW t0 d1
  refine ⟨by rw [gE]; rfl, ?_⟩
  intro f2 d2 f3 d3 f4 d4 f5 d5 f6 d6 f7 d7 f8 d8 f9 d9 f10 d10 f11 d11 f12 d12 f13 d13 f14 d14
  obtain ⟨x2, y2, z2⟩ := stW t0 d2
  obtain ⟨x3, y3, z3⟩ := stW t0 d3
  obtain ⟨x4, y4, z4⟩ := stW t0 d4
  obtain ⟨x5, y5, z5⟩ := stW t0 d5
  obtain ⟨x6, y6, z6⟩ := stW t0 d6
  obtain ⟨x7, y7, z7⟩ := stW t0 d7
  obtain ⟨x8, y8, z8⟩ := stW t0 d8
  obtain ⟨x9, y9, z9⟩ := stW t0 d9
  obtain ⟨x10, y10, z10⟩ := stW t0 d10
  obtain ⟨x11, y11, z11⟩ := stW t0 d11
  obtain ⟨x12, y12, z12⟩ := stW t0 d12
  obtain ⟨x13, y13, z13⟩ := stW t0 d13
  obtain ⟨x14, y14, z14⟩ := stW t0 d14
  have off : ∀ a, a ≠ E → f14 a = g a := fun a ha => by rw [y14 a ha, y13 a ha, y12 a ha, y11 a ha, y10 a ha, y9 a ha, y8 a ha, y7 a ha, y6 a ha, y5 a ha, y4 a ha, y3 a ha, y2 a ha, y1 a ha]
  refine L_i1 (h0 := h) (e := e) (ho := ho) (wi := wi) t0 t1 hk 4 0 _ f14 (by decide) (by decide) (by omega) (fun a a0 a1 => by rw [off a (by omega), k2 a a0 (by omega), r3 a a0 (by omega), q3 a a0 (by omega) (by omega), p3 a a0 (by omega) (by omega)]) ?_ ?_ (by rw [off _ (by omega), k2 _ (by omega) (by omega), r3 _ (by omega) (by omega), show E + 2 = E + 1 + 1 by omega]; exact q2) ?_ (by rw [off _ (by omega), show E + 4 = E + 1 + 1 + 1 + 1 by omega]; exact k4) (by rw [off _ (by omega), show E + 5 = E + 1 + 1 + 1 + 2 by omega]; exact k5) (fun j j0 j1 => by omega) (by decide) (by decide)
  · rw [z14, z13, z12, z11, z10, z9, z8, z7, z6, z5, z4, z3, z2, z1, gE]
    funext x
    simp only [ro, Zf]
    (repeat' split) <;> first | rfl | omega
  · rw [off _ (by omega), k2 _ (by omega) (by omega), r3 _ (by omega) (by omega), q3 _ (by omega) (by omega) (by omega), p2]
    funext x
    simp only [ro, Zf]
    (repeat' split) <;> first | rfl | omega
  · rw [off _ (by omega), show E + 3 = E + 1 + 1 + 1 by omega, k3]
    funext x
    simp only [ro]
    (repeat' split) <;> first | rfl | omega
end KI
