/-! the reference: a line joined -/
/-- how many of the first packets are of another line -/
def cn (l : Int) (σ : Hp) : Nat → Int
  | 0 => 0
  | n + 1 => cn l σ n + (if σ 109 (11 * (n : Int)) / 2 = l then 0 else 1)
theorem cn_in {l : Int} {σ : Hp} : ∀ n : Nat, 0 ≤ cn l σ n ∧ cn l σ n ≤ n
  | 0 => ⟨Int.le_refl _, Int.le_refl _⟩
  | n + 1 => by
    have := cn_in (l := l) (σ := σ) n
    unfold cn
    split <;> omega
theorem cn_s {l : Int} {σ : Hp} {n : Nat} : cn l σ (n + 1) = cn l σ n + (if σ 109 (11 * (n : Int)) / 2 = l then 0 else 1) := rfl
theorem cn_mo {l : Int} {σ : Hp} {x : Nat} : ∀ d : Nat, cn l σ x ≤ cn l σ (x + d)
  | 0 => Int.le_refl _
  | d + 1 => by
    have := cn_mo (l := l) (σ := σ) (x := x) d
    rw [← Nat.add_assoc, cn_s]
    split <;> omega
theorem cn_le {l : Int} {σ : Hp} {x y : Nat} (h : x ≤ y) : cn l σ x ≤ cn l σ y := by
  obtain ⟨d, rfl⟩ := Nat.le.dest h
  exact cn_mo d
theorem cn_lt {l : Int} {σ : Hp} {x y : Nat} (h : cn l σ x < cn l σ y) : x < y := by
  rcases Nat.lt_or_ge x y with q | q
  · exact q
  · have := cn_le (l := l) (σ := σ) q
    omega
theorem cn_k {l : Int} {σ : Hp} {x y : Nat} (h : x < y) (hk : ¬ σ 109 (11 * (x : Int)) / 2 = l) : cn l σ x < cn l σ y := by
  have := cn_le (l := l) (σ := σ) (show x + 1 ≤ y from h)
  rw [cn_s, if_neg hk] at this
  omega
theorem cn_sur {l : Int} {σ : Hp} : ∀ (n : Nat) (j : Int), 0 ≤ j → j < cn l σ n → ∃ x : Nat, x < n ∧ ¬ σ 109 (11 * (x : Int)) / 2 = l ∧ cn l σ x = j
  | 0, j, h0, h1 => by
    have h1 : j < 0 := h1
    omega
  | n + 1, j, h0, h1 => by
    rw [cn_s] at h1
    by_cases c : σ 109 (11 * (n : Int)) / 2 = l
    · rw [if_pos c, Int.add_zero] at h1
      obtain ⟨x, x1, x2, x3⟩ := cn_sur (l := l) (σ := σ) n j h0 h1
      exact ⟨x, by omega, x2, x3⟩
    · rw [if_neg c] at h1
      by_cases d : j = cn l σ n
      · exact ⟨n, by omega, c, d.symm⟩
      · obtain ⟨x, x1, x2, x3⟩ := cn_sur (l := l) (σ := σ) n j h0 (by omega)
        exact ⟨x, by omega, x2, x3⟩
def F_flt : Nat → Int → Int → Int → Hp → Hp
  | 0, _, _, k, σ => wr σ 89 21 k
  | n + 1, l, i, k, σ => if σ 109 (11 * i) / 2 = l then F_flt n l (i + 1) k σ else F_flt n l (i + 1) (k + 1) (cpx σ 109 (11 * k) 109 (11 * i) 11)
theorem flt_off {l a : Int} (h1 : a ≠ 89) (h2 : a ≠ 109) : ∀ (n : Nat) (i k : Int) (σ : Hp), F_flt n l i k σ a = σ a
  | 0, i, k, σ => wr_off h1
  | n + 1, i, k, σ => by
    show (if σ 109 (11 * i) / 2 = l then F_flt n l (i + 1) k σ else F_flt n l (i + 1) (k + 1) (cpx σ 109 (11 * k) 109 (11 * i) 11)) a = σ a
    split
    · exact flt_off h1 h2 n _ _ σ
    · rw [flt_off h1 h2 n, cpx_offr h2]
theorem flt_89 {l x : Int} (h : x ≠ 21) : ∀ (n : Nat) (i k : Int) (σ : Hp), F_flt n l i k σ 89 x = σ 89 x
  | 0, i, k, σ => wr_k h
  | n + 1, i, k, σ => by
    show (if σ 109 (11 * i) / 2 = l then F_flt n l (i + 1) k σ else F_flt n l (i + 1) (k + 1) (cpx σ 109 (11 * k) 109 (11 * i) 11)) 89 x = σ 89 x
    split
    · exact flt_89 h n _ _ σ
    · rw [flt_89 h n, cpx_off (by decide)]
theorem flt_in {l : Int} {τ : Hp} : ∀ (n i : Nat) (σ : Hp), (∀ x : Nat, x < i → ¬ τ 109 (11 * (x : Int)) / 2 = l → ∀ t, 0 ≤ t → t < 11 → σ 109 (11 * cn l τ x + t) = τ 109 (11 * (x : Int) + t)) → (∀ j, 11 * (i : Int) ≤ j → σ 109 j = τ 109 j) → (F_flt n l i (cn l τ i) σ 89 21 = cn l τ (i + n)) ∧ (∀ x : Nat, x < i + n → ¬ τ 109 (11 * (x : Int)) / 2 = l → ∀ t, 0 ≤ t → t < 11 → F_flt n l i (cn l τ i) σ 109 (11 * cn l τ x + t) = τ 109 (11 * (x : Int) + t))
  | 0, i, σ, h1, h2 => by
    refine ⟨wr_e, fun x x1 x2 t t0 t1 => ?_⟩
    show wr σ 89 21 (cn l τ i) 109 (11 * cn l τ x + t) = _
    rw [wr_a (by decide)]
    exact h1 x x1 x2 t t0 t1
  | n + 1, i, σ, h1, h2 => by
    have e0 : F_flt (n + 1) l i (cn l τ i) σ = if σ 109 (11 * (i : Int)) / 2 = l then F_flt n l ((i : Int) + 1) (cn l τ i) σ else F_flt n l ((i : Int) + 1) (cn l τ i + 1) (cpx σ 109 (11 * cn l τ i) 109 (11 * (i : Int)) 11) := rfl
    have ci := cn_in (l := l) (σ := τ) i
    rw [e0, h2 (11 * (i : Int)) (Int.le_refl _), show i + (n + 1) = i + 1 + n by omega]
    by_cases c : τ 109 (11 * (i : Int)) / 2 = l
    · rw [if_pos c]
      have hs : cn l τ (i + 1) = cn l τ i := by rw [cn_s, if_pos c, Int.add_zero]
      have ih := flt_in (l := l) (τ := τ) n (i + 1) σ (fun x x1 x2 => by
        have hx : x ≠ i := fun q => x2 (by rw [q]; exact c)
        exact h1 x (by omega) x2) (fun j hj => h2 j (by omega))
      rw [hs, show ((i + 1 : Nat) : Int) = (i : Int) + 1 from rfl] at ih
      exact ih
    · rw [if_neg c]
      have hs : cn l τ (i + 1) = cn l τ i + 1 := by rw [cn_s, if_neg c]
      have ih := flt_in (l := l) (τ := τ) n (i + 1) (cpx σ 109 (11 * cn l τ i) 109 (11 * (i : Int)) 11) (fun x x1 x2 t t0 t1 => by
        by_cases hx : x = i
        · subst hx
          rw [cpx_in (by omega) (by omega), show 11 * cn l τ x + t - 11 * cn l τ x + 11 * (x : Int) = 11 * (x : Int) + t by omega]
          exact h2 _ (by omega)
        · have := cn_k (show x < i by omega) x2
          rw [cpx_out (by omega)]
          exact h1 x (by omega) x2 t t0 t1) (fun j hj => by
        rw [cpx_out (by omega)]
        exact h2 j (by omega))
      rw [hs, show ((i + 1 : Nat) : Int) = (i : Int) + 1 from rfl] at ih
      exact ih
theorem st_flt {l : Int} : ∀ (n : Nat) (i k : Int) (σ : Hp), ST σ → 0 ≤ k → ST (F_flt n l i k σ)
  | 0, i, k, σ, h, _ => st_wrS h (by decide)
  | n + 1, i, k, σ, h, hk => by
    show ST (if σ 109 (11 * i) / 2 = l then F_flt n l (i + 1) k σ else F_flt n l (i + 1) (k + 1) (cpx σ 109 (11 * k) 109 (11 * i) 11))
    split
    · exact st_flt n _ _ _ h hk
    · exact st_flt n _ _ _ (st_cpx h (by decide) (by decide) (by omega)) (by omega)
def F_fl (l : Int) (σ : Hp) : Hp := F_flt (σ 89 21).toNat l 0 0 σ
theorem fl_in {l : Int} {σ : Hp} : (F_fl l σ 89 21 = cn l σ (σ 89 21).toNat) ∧ (∀ x : Nat, x < (σ 89 21).toNat → ¬ σ 109 (11 * (x : Int)) / 2 = l → ∀ t, 0 ≤ t → t < 11 → F_fl l σ 109 (11 * cn l σ x + t) = σ 109 (11 * (x : Int) + t)) := by
  have h := flt_in (l := l) (τ := σ) (σ 89 21).toNat 0 σ (fun x x1 => absurd x1 (by omega)) (fun j _ => rfl)
  rw [Nat.zero_add] at h
  exact h
theorem iv_fl {σ : Hp} {n m l : Int} (hI : IV σ n m) : IV (F_fl l σ) n m := by
  have hc := cn_in (l := l) (σ := σ) (σ 89 21).toNat
  obtain ⟨f1, f2⟩ := fl_in (l := l) (σ := σ)
  have off : ∀ a, a ≠ 89 → a ≠ 109 → F_fl l σ a = σ a := fun a q1 q2 => flt_off q1 q2 _ _ _ _
  have o89 : ∀ k, k ≠ 21 → F_fl l σ 89 k = σ 89 k := fun k q => flt_89 q _ _ _ _
  refine ⟨st_flt _ _ _ _ hI.s (Int.le_refl 0), hI.n, Ic_c (off 90 (by decide) (by decide)) hI.c, Ik_c (off 91 (by decide) (by decide)) (off 92 (by decide) (by decide)) (off 93 (by decide) (by decide)) hI.k, Ie_c (off 94 (by decide) (by decide)) (off 95 (by decide) (by decide)) (off 96 (by decide) (by decide)) (off 98 (by decide) (by decide)) (off 99 (by decide) (by decide)) (off 101 (by decide) (by decide)) (off 102 (by decide) (by decide)) (off 103 (by decide) (by decide)) (off 104 (by decide) (by decide)) (off 106 (by decide) (by decide)) (off 107 (by decide) (by decide)) hI.e, Iw_c (off 96 (by decide) (by decide)) (off 97 (by decide) (by decide)) hI.w, Ip_c (off 99 (by decide) (by decide)) (off 100 (by decide) (by decide)) hI.p, Ig_c (off 98 (by decide) (by decide)) (off 104 (by decide) (by decide)) (off 105 (by decide) (by decide)) hI.g, Id_c (off 108 (by decide) (by decide)) hI.d, ?_, It_c (off 96 (by decide) (by decide)) (off 99 (by decide) (by decide)) (off 111 (by decide) (by decide)) (off 112 (by decide) (by decide)) hI.t, Ix_c (o89 31 (by decide)) (off 114 (by decide) (by decide)) hI.x⟩
  obtain ⟨q1, q2, q3, q4, q5, q6, q7⟩ := hI.q
  unfold Iq
  rw [f1, o89 19 (by decide), o89 22 (by decide), o89 28 (by decide), o89 29 (by decide)]
  refine ⟨by omega, q2, q3, q4, q5, fun i i0 i1 => ?_, fun i j i0 ij j1 => ?_⟩
  · obtain ⟨x, x1, x2, x3⟩ := cn_sur (l := l) (σ := σ) (σ 89 21).toNat i i0 i1
    have f := f2 x x1 x2
    rw [x3] at f
    have z := f 0 (by decide) (by decide)
    rw [Int.add_zero, Int.add_zero] at z
    have := q6 x (by omega) (by omega)
    unfold Pk at this ⊢
    rw [o89 22 (by decide), z, f 1 (by decide) (by decide), f 2 (by decide) (by decide), f 3 (by decide) (by decide), f 4 (by decide) (by decide), f 5 (by decide) (by decide), f 6 (by decide) (by decide), f 7 (by decide) (by decide), f 8 (by decide) (by decide), f 9 (by decide) (by decide), f 10 (by decide) (by decide)]
    exact this
  · obtain ⟨x, x1, x2, x3⟩ := cn_sur (l := l) (σ := σ) (σ 89 21).toNat i i0 (by omega)
    obtain ⟨y, y1, y2, y3⟩ := cn_sur (l := l) (σ := σ) (σ 89 21).toNat j (by omega) j1
    have fx := f2 x x1 x2 10 (by decide) (by decide)
    have fy := f2 y y1 y2 10 (by decide) (by decide)
    rw [x3] at fx
    rw [y3] at fy
    rw [fx, fy]
    have xy : x < y := cn_lt (l := l) (σ := σ) (by omega)
    exact q7 x y (by omega) (by omega) (by omega)
theorem anew_off {e s a : Int} {σ : Hp} (h : a < 94 ∨ a = 97 ∨ a = 100 ∨ 104 < a) : F_anew e s σ a = σ a := by
  unfold F_anew
  rw [wr_off (by omega), wr_off (by omega), wr_off (by omega), wr_off (by omega), wr_off (by omega), wr_off (by omega), wr_off (by omega), wr_off (by omega), wr_off (by omega)]
theorem anew_v {e s a x : Int} {σ : Hp} (h : a = 94 ∨ a = 95 ∨ a = 96 ∨ a = 98 ∨ a = 99 ∨ a = 101 ∨ a = 102 ∨ a = 103 ∨ a = 104) : F_anew e s σ a x = if x = e then (if a = 94 then s else 0) else σ a x := by
  unfold F_anew
  rcases h with rfl | rfl | rfl | rfl | rfl | rfl | rfl | rfl | rfl <;> simp (config := { decide := true }) only [wr_v, wr_a, ne_eq, not_false_eq_true, if_true, if_false]
theorem st_anew {e s : Int} {σ : Hp} (hT : ST σ) (h0 : 0 ≤ e) : ST (F_anew e s σ) := by
  unfold F_anew
  exact st_wr (st_wr (st_wr (st_wr (st_wr (st_wr (st_wr (st_wr (st_wr hT (by decide) (by decide) h0) (by decide) (by decide) h0) (by decide) (by decide) h0) (by decide) (by decide) h0) (by decide) (by decide) h0) (by decide) (by decide) h0) (by decide) (by decide) h0) (by decide) (by decide) h0) (by decide) (by decide) h0
theorem iv_anew {σ : Hp} {n m e s : Int} (hI : IV σ n m) (h0 : 0 ≤ e) (s0 : 0 ≤ s) (s1 : s ≤ 2) : IV (F_anew e s σ) n m := by
  have hN := hI.n
  have off : ∀ a, a < 94 ∨ a = 97 ∨ a = 100 ∨ 104 < a → F_anew e s σ a = σ a := fun a => anew_off
  refine ⟨st_anew hI.s h0, hI.n, Ic_c (off 90 (by decide)) hI.c, Ik_c (off 91 (by decide)) (off 92 (by decide)) (off 93 (by decide)) hI.k, fun x x0 x1 => ?_, fun x i x0 x1 i0 i1 => ?_, fun x i x0 x1 i0 i1 => ?_, fun x x0 x1 => ?_, Id_c (off 108 (by decide)) hI.d, Iq_c (by rw [(off 89 (by decide))]) (by rw [(off 89 (by decide))]) (by rw [(off 89 (by decide))]) (by rw [(off 89 (by decide))]) (by rw [(off 89 (by decide))]) (off 109 (by decide)) hI.q, fun j j0 j1 => ?_, Ix_c (by rw [(off 89 (by decide))]) (off 114 (by decide)) hI.x⟩
  · have hx := hI.e x x0 x1
    rw [anew_v (by decide), anew_v (by decide), anew_v (by decide), anew_v (by decide), anew_v (by decide), anew_v (by decide), anew_v (by decide), anew_v (by decide), anew_v (by decide), off 106 (by decide), off 107 (by decide)]
    by_cases hq : x = e
    · subst hq
      simp (config := { decide := true }) only [eq_self, if_true, if_false]
      exact ⟨⟨s0, s1⟩, ⟨by decide, hN.1⟩, (by decide), ⟨by decide, hN.1⟩, (by decide), (by decide), (by decide), (by decide), (by decide), hx.2.2.2.2.2.2.2.2.2⟩
    · simp only [hq, if_false]
      exact hx
  · rw [anew_v (by decide)] at i1
    rw [off 97 (by decide)]
    by_cases hq : x = e
    · rw [if_pos hq, if_neg (by decide)] at i1
      omega
    · rw [if_neg hq] at i1
      exact hI.w x i x0 x1 i0 i1
  · rw [anew_v (by decide)] at i1
    rw [off 100 (by decide)]
    by_cases hq : x = e
    · rw [if_pos hq, if_neg (by decide)] at i1
      omega
    · rw [if_neg hq] at i1
      exact hI.p x i x0 x1 i0 i1
  · rw [off 105 (by decide), anew_v (by decide), anew_v (by decide)]
    by_cases hq : x = e
    · rw [if_pos hq, if_pos hq, if_neg (by decide), if_neg (by decide)]
      exact ⟨fun h => absurd h (by decide), fun h => absurd h (by decide)⟩
    · rw [if_neg hq, if_neg hq]
      exact hI.g x x0 x1
  · have hj := hI.t j j0 j1
    have a1 := hI.e j j0 (by omega)
    have a2 := hI.e (j + 2) (by omega) (by omega)
    rw [off 111 (by decide), off 112 (by decide), anew_v (by decide), anew_v (by decide), anew_v (by decide), anew_v (by decide)]
    simp (config := { decide := true }) only [if_false]
    (repeat' split) <;> omega
def F_joi (l : Int) (σ : Hp) : Hp := if σ 94 (2 * l) = 1 ∨ σ 94 (2 * l + 1) = 1 then σ else F_fl l (F_anew (2 * l + 1) 1 (F_anew (2 * l) 1 σ))
def M_join (l : Int) (σ : Hp) : Int × Hp := if ¬ (0 ≤ l ∧ l ≤ 1) then (-1001, σ) else if σ 94 (2 * l) = 1 ∨ σ 94 (2 * l + 1) = 1 then (-1003, σ) else (rc (F_joi l σ) 4, F_joi l σ)
theorem iv_joi {σ : Hp} {n m l : Int} (hI : IV σ n m) (h0 : 0 ≤ l) : IV (F_joi l σ) n m := by
  unfold F_joi
  split
  · exact hI
  · exact iv_fl (iv_anew (iv_anew hI (by omega) (by decide) (by decide)) (by omega) (by decide) (by decide))
section RB
variable {G : GG} {b : Nat × Nat} {Q : Option VV → Hp → Prop} {g σ : Hp}
set_option maxHeartbeats 4000000 in
theorem L_flt {l : Int} : ∀ (n : Nat) (i k : Int) (σ : Hp), ST σ → 0 ≤ k → k ≤ i → i + n = σ 89 21 → σ 89 21 ≤ 24 → (∀ j, i ≤ j → j < σ 89 21 → 0 ≤ σ 109 (11 * j)) → Q none (mg g (F_flt n l i k σ)) → AW G mm_X10_joins b 31 [(0, vR 89), (1, vI l), (2, vI k), (3, vI i)] [] (mg g σ) Q := by
  intro n
  induction n with
  | zero =>
    intro i k σ hT k0 ki hi h24 hp hk
    have hk : Q none (mg g (wr σ 89 21 k)) := hk
    refine sg_X10_joins_31 ?_
    simp (disch := omega) only [mg_in, mg_wr, wr_a, hT, forall_eq, true_and, inI, Int.add_zero]
    (repeat' (refine And.intro ?_ ?_)) <;> intros <;> (repeat' (refine And.intro ?_ ?_)) <;> intros <;> (repeat' (refine And.intro ?_ ?_)) <;> intros <;> (repeat' (refine And.intro ?_ ?_)) <;> intros <;> (repeat' (refine And.intro ?_ ?_)) <;> intros <;> (repeat' (refine And.intro ?_ ?_)) <;> intros <;> (repeat' (refine And.intro ?_ ?_)) <;> intros <;> (repeat' (refine And.intro ?_ ?_)) <;> intros
    all_goals first | omega | exact hk
  | succ n ih =>
    intro i k σ hT k0 ki hi h24 hp hk
    have hk : Q none (mg g (if σ 109 (11 * i) / 2 = l then F_flt n l (i + 1) k σ else F_flt n l (i + 1) (k + 1) (cpx σ 109 (11 * k) 109 (11 * i) 11))) := hk
    have p0 := hp i (Int.le_refl i) (by omega)
    by_cases c : σ 109 (11 * i) / 2 = l
    · rw [if_pos c] at hk
      have hL := ih (i + 1) k σ hT k0 (by omega) (by omega) h24 (fun j j0 j1 => hp j (by omega) j1) hk
      refine sg_X10_joins_31 ?_
      simp (disch := omega) only [mg_in, mg_wr, wr_a, hT, forall_eq, true_and, inI, Int.add_zero]
      (repeat' (refine And.intro ?_ ?_)) <;> intros <;> (repeat' (refine And.intro ?_ ?_)) <;> intros <;> (repeat' (refine And.intro ?_ ?_)) <;> intros <;> (repeat' (refine And.intro ?_ ?_)) <;> intros <;> (repeat' (refine And.intro ?_ ?_)) <;> intros <;> (repeat' (refine And.intro ?_ ?_)) <;> intros <;> (repeat' (refine And.intro ?_ ?_)) <;> intros <;> (repeat' (refine And.intro ?_ ?_)) <;> intros
      all_goals first | omega | exact hL
    · rw [if_neg c] at hk
      have f89 : cpx σ 109 (11 * k) 109 (11 * i) 11 89 21 = σ 89 21 := cpx_off (by decide)
      have hR : Runs G mm_X10_copyPacket [vR 89, vI i, vI k] (mg g σ) (fun r h' => AW G mm_X10_joins b 62 [(0, vR 89), (1, vI l), (2, vI k), (3, vI i)] (r.toList ++ []) h' Q) := by
        refine R_cpy hT k0 ki (by omega) ?_
        have hL := ih (i + 1) (k + 1) _ (st_cpx (a := 109) (dst := 11 * k) (b := 109) (src := 11 * i) (n := 11) hT (by decide) (by decide) (by omega)) (by omega) (by omega) (by rw [f89]; omega) (by rw [f89]; omega) (fun j j0 j1 => by rw [f89] at j1; rw [cpx_out (by omega)]; exact hp j (by omega) j1) hk
        refine sg_X10_joins_62 ?_
        (repeat' (refine And.intro ?_ ?_)) <;> intros <;> (repeat' (refine And.intro ?_ ?_)) <;> intros <;> (repeat' (refine And.intro ?_ ?_)) <;> intros <;> (repeat' (refine And.intro ?_ ?_)) <;> intros
        all_goals first | exact ⟨by omega, by omega⟩ | omega | exact hL
      refine sg_X10_joins_31 ?_
      simp (disch := omega) only [mg_in, mg_wr, wr_a, hT, forall_eq, true_and, inI, Int.add_zero]
      (repeat' (refine And.intro ?_ ?_)) <;> intros <;> (repeat' (refine And.intro ?_ ?_)) <;> intros <;> (repeat' (refine And.intro ?_ ?_)) <;> intros <;> (repeat' (refine And.intro ?_ ?_)) <;> intros <;> (repeat' (refine And.intro ?_ ?_)) <;> intros <;> (repeat' (refine And.intro ?_ ?_)) <;> intros <;> (repeat' (refine And.intro ?_ ?_)) <;> intros <;> (repeat' (refine And.intro ?_ ?_)) <;> intros
      all_goals first | omega | exact hR
set_option maxHeartbeats 4000000 in
theorem R_joins {l n m : Int} (hI : IV σ n m) (h0 : 0 ≤ l) (h1 : l ≤ 1) (hk : Q none (mg g (F_joi l σ))) : Runs G mm_X10_joins [vR 89, vI l] (mg g σ) Q := by
  have hT := hI.s
  unfold F_joi at hk
  refine rn_X10_joins ?_
  have hR : Runs G mm_X10_isReady [vR 89, vI l] (mg g σ) (fun r h' => AW G mm_X10_joins (0, 0) 5 [(0, vR 89), (1, vI l)] (r.toList ++ []) h' Q) := by
    refine R_isReady hT h0 (by omega) ?_
    refine sg_X10_joins_5 ?_
    by_cases hc : σ 94 (2 * l) = 1 ∨ σ 94 (2 * l + 1) = 1
    · rw [if_pos hc] at hk
      rw [b2i_t hc]
      simp (disch := omega) only [mg_in, mg_wr, wr_a, hT, forall_eq, true_and, inI, Int.add_zero]
      (repeat' (refine And.intro ?_ ?_)) <;> intros <;> (repeat' (refine And.intro ?_ ?_)) <;> intros <;> (repeat' (refine And.intro ?_ ?_)) <;> intros <;> (repeat' (refine And.intro ?_ ?_)) <;> intros <;> (repeat' (refine And.intro ?_ ?_)) <;> intros <;> (repeat' (refine And.intro ?_ ?_)) <;> intros <;> (repeat' (refine And.intro ?_ ?_)) <;> intros <;> (repeat' (refine And.intro ?_ ?_)) <;> intros
      all_goals first | omega | exact hk
    · rw [if_neg hc] at hk
      rw [b2i_f hc]
      have iA := iv_anew (e := 2 * l) (s := 1) hI (by omega) (by decide) (by decide)
      have iB := iv_anew (e := 2 * l + 1) (s := 1) iA (by omega) (by decide) (by decide)
      have hR2 : Runs G mm_X10_endAnew [vR 89, vI (2 * l), vI 1] (mg g σ) (fun r h' => AW G mm_X10_joins (0, 0) 17 [(0, vR 89), (1, vI l)] (r.toList ++ []) h' Q) := by
        refine R_endAnew hT (by omega) (by omega) ?_
        have hT := iA.s
        have hR3 : Runs G mm_X10_endAnew [vR 89, vI (2 * l + 1), vI 1] (mg g (F_anew (2 * l) 1 σ)) (fun r h' => AW G mm_X10_joins (0, 0) 27 [(0, vR 89), (1, vI l)] (r.toList ++ []) h' Q) := by
          refine R_endAnew hT (by omega) (by omega) ?_
          obtain ⟨q1, q2, q3, q4, q5, q6, q7⟩ := iB.q
          exact sg_X10_joins_27 (L_flt _ 0 0 _ iB.s (Int.le_refl 0) (Int.le_refl 0) (by omega) (by omega) (fun j j0 j1 => (q6 j j0 j1).1.1) hk)
        refine sg_X10_joins_17 ?_
        simp (disch := omega) only [mg_in, mg_wr, wr_a, hT, forall_eq, true_and, inI, Int.add_zero]
        (repeat' (refine And.intro ?_ ?_)) <;> intros <;> (repeat' (refine And.intro ?_ ?_)) <;> intros <;> (repeat' (refine And.intro ?_ ?_)) <;> intros <;> (repeat' (refine And.intro ?_ ?_)) <;> intros <;> (repeat' (refine And.intro ?_ ?_)) <;> intros <;> (repeat' (refine And.intro ?_ ?_)) <;> intros <;> (repeat' (refine And.intro ?_ ?_)) <;> intros <;> (repeat' (refine And.intro ?_ ?_)) <;> intros
        all_goals first | omega | exact hR3
      simp (disch := omega) only [mg_in, mg_wr, wr_a, hT, forall_eq, true_and, inI, Int.add_zero]
      (repeat' (refine And.intro ?_ ?_)) <;> intros <;> (repeat' (refine And.intro ?_ ?_)) <;> intros <;> (repeat' (refine And.intro ?_ ?_)) <;> intros <;> (repeat' (refine And.intro ?_ ?_)) <;> intros <;> (repeat' (refine And.intro ?_ ?_)) <;> intros <;> (repeat' (refine And.intro ?_ ?_)) <;> intros <;> (repeat' (refine And.intro ?_ ?_)) <;> intros <;> (repeat' (refine And.intro ?_ ?_)) <;> intros
      all_goals first | omega | exact hR2 | (rename_i hz; exact absurd rfl hz) | (rename_i hz; exact absurd trivial hz)
  simp (disch := omega) only [mg_in, mg_wr, wr_a, hT, forall_eq, true_and, inI, Int.add_zero]
  (repeat' (refine And.intro ?_ ?_)) <;> intros <;> (repeat' (refine And.intro ?_ ?_)) <;> intros <;> (repeat' (refine And.intro ?_ ?_)) <;> intros <;> (repeat' (refine And.intro ?_ ?_)) <;> intros <;> (repeat' (refine And.intro ?_ ?_)) <;> intros <;> (repeat' (refine And.intro ?_ ?_)) <;> intros <;> (repeat' (refine And.intro ?_ ?_)) <;> intros <;> (repeat' (refine And.intro ?_ ?_)) <;> intros
  all_goals first | omega | exact hR
set_option maxHeartbeats 4000000 in
theorem R_join {l n m : Int} (hI : IV σ n m) (hk : Q (some (vI (M_join l σ).1)) (mg g (M_join l σ).2)) : Runs G mm_X10_join [vR 89, vI l] (mg g σ) Q := by
  have hT := hI.s
  unfold M_join at hk
  refine rn_X10_join ?_
  by_cases h : 0 ≤ l ∧ l ≤ 1
  · rw [if_neg (not_not_intro h)] at hk
    have hR : Runs G mm_X10_isReady [vR 89, vI l] (mg g σ) (fun r h' => AW G mm_X10_join (0, 0) 16 [(0, vR 89), (1, vI l)] (r.toList ++ []) h' Q) := by
      refine R_isReady hT h.1 (by omega) ?_
      refine sg_X10_join_16 ?_
      by_cases hc : σ 94 (2 * l) = 1 ∨ σ 94 (2 * l + 1) = 1
      · rw [if_pos hc] at hk
        rw [b2i_t hc]
        simp (disch := omega) only [mg_in, mg_wr, wr_a, hT, forall_eq, true_and, inI, Int.add_zero]
        (repeat' (refine And.intro ?_ ?_)) <;> intros <;> (repeat' (refine And.intro ?_ ?_)) <;> intros <;> (repeat' (refine And.intro ?_ ?_)) <;> intros <;> (repeat' (refine And.intro ?_ ?_)) <;> intros <;> (repeat' (refine And.intro ?_ ?_)) <;> intros <;> (repeat' (refine And.intro ?_ ?_)) <;> intros <;> (repeat' (refine And.intro ?_ ?_)) <;> intros <;> (repeat' (refine And.intro ?_ ?_)) <;> intros
        all_goals first | omega | exact hk
      · rw [if_neg hc] at hk
        rw [b2i_f hc]
        have hR2 : Runs G mm_X10_joins [vR 89, vI l] (mg g σ) (fun r h' => AW G mm_X10_join (0, 0) 28 [(0, vR 89)] (r.toList ++ []) h' Q) := by
          refine R_joins hI h.1 h.2 ?_
          have hT := (iv_joi hI h.1).s
          have hR3 := R_readyEnds (G := G) (g := g) (Q := fun r h' => AW G mm_X10_join (0, 0) 32 [] (r.toList ++ []) h' Q) hT (sg_X10_join_32 hk)
          refine sg_X10_join_28 ?_
          simp (disch := omega) only [mg_in, mg_wr, wr_a, hT, forall_eq, true_and, inI, Int.add_zero]
          (repeat' (refine And.intro ?_ ?_)) <;> intros <;> (repeat' (refine And.intro ?_ ?_)) <;> intros <;> (repeat' (refine And.intro ?_ ?_)) <;> intros <;> (repeat' (refine And.intro ?_ ?_)) <;> intros <;> (repeat' (refine And.intro ?_ ?_)) <;> intros <;> (repeat' (refine And.intro ?_ ?_)) <;> intros <;> (repeat' (refine And.intro ?_ ?_)) <;> intros <;> (repeat' (refine And.intro ?_ ?_)) <;> intros
          all_goals first | omega | exact hR3
        simp (disch := omega) only [mg_in, mg_wr, wr_a, hT, forall_eq, true_and, inI, Int.add_zero]
        (repeat' (refine And.intro ?_ ?_)) <;> intros <;> (repeat' (refine And.intro ?_ ?_)) <;> intros <;> (repeat' (refine And.intro ?_ ?_)) <;> intros <;> (repeat' (refine And.intro ?_ ?_)) <;> intros <;> (repeat' (refine And.intro ?_ ?_)) <;> intros <;> (repeat' (refine And.intro ?_ ?_)) <;> intros <;> (repeat' (refine And.intro ?_ ?_)) <;> intros <;> (repeat' (refine And.intro ?_ ?_)) <;> intros
        all_goals first | omega | exact hR2 | (rename_i hz; exact absurd rfl hz) | (rename_i hz; exact absurd trivial hz)
    simp (disch := omega) only [mg_in, mg_wr, wr_a, hT, forall_eq, true_and, inI, Int.add_zero]
    (repeat' (refine And.intro ?_ ?_)) <;> intros <;> (repeat' (refine And.intro ?_ ?_)) <;> intros <;> (repeat' (refine And.intro ?_ ?_)) <;> intros <;> (repeat' (refine And.intro ?_ ?_)) <;> intros <;> (repeat' (refine And.intro ?_ ?_)) <;> intros <;> (repeat' (refine And.intro ?_ ?_)) <;> intros <;> (repeat' (refine And.intro ?_ ?_)) <;> intros <;> (repeat' (refine And.intro ?_ ?_)) <;> intros
    all_goals first | omega | exact hR
  · rw [if_pos h] at hk
    simp (disch := omega) only [mg_in, mg_wr, wr_a, hT, forall_eq, true_and, inI, Int.add_zero]
    (repeat' (refine And.intro ?_ ?_)) <;> intros <;> (repeat' (refine And.intro ?_ ?_)) <;> intros <;> (repeat' (refine And.intro ?_ ?_)) <;> intros <;> (repeat' (refine And.intro ?_ ?_)) <;> intros <;> (repeat' (refine And.intro ?_ ?_)) <;> intros <;> (repeat' (refine And.intro ?_ ?_)) <;> intros <;> (repeat' (refine And.intro ?_ ?_)) <;> intros <;> (repeat' (refine And.intro ?_ ?_)) <;> intros
    all_goals first | omega | exact hk
end RB
