/-! the reference's memory: what holds of it after n calls, with at most m packets sent and lost -/
def Ic (σ : Hp) : Prop := ∀ i, 0 ≤ i → i < 24 → 0 ≤ σ 90 i ∧ σ 90 i ≤ 9999
def Ik (σ : Hp) : Prop := ∀ i, 0 ≤ i → i < 8 → 0 ≤ σ 92 i ∧ (σ 92 i ≠ 0 → 0 ≤ σ 91 i ∧ σ 91 i + σ 92 i ≤ 12 ∧ 0 ≤ σ 93 i ∧ σ 93 i ≤ 7)
def Ie (σ : Hp) (n : Int) : Prop := ∀ e, 0 ≤ e → e < 4 → (0 ≤ σ 94 e ∧ σ 94 e ≤ 2) ∧ (0 ≤ σ 95 e ∧ σ 95 e ≤ n) ∧ (0 ≤ σ 96 e ∧ σ 96 e ≤ 4) ∧ (0 ≤ σ 98 e ∧ σ 98 e ≤ n) ∧ (0 ≤ σ 99 e ∧ σ 99 e ≤ 3) ∧ (0 ≤ σ 101 e ∧ σ 101 e ≤ 3) ∧ (0 ≤ σ 102 e ∧ σ 102 e ≤ 3) ∧ (0 ≤ σ 103 e ∧ σ 103 e ≤ 1) ∧ (0 ≤ σ 104 e ∧ σ 104 e ≤ 2) ∧ (0 ≤ σ 106 e ∧ σ 106 e ≤ 3) ∧ (0 ≤ σ 107 e ∧ σ 107 e ≤ 11)
def Iw (σ : Hp) (n : Int) : Prop := ∀ e i, 0 ≤ e → e < 4 → 0 ≤ i → i < σ 96 e → (0 ≤ σ 97 (28 * e + 7 * i) ∧ σ 97 (28 * e + 7 * i) ≤ n) ∧ (0 ≤ σ 97 (28 * e + 7 * i + 1) ∧ σ 97 (28 * e + 7 * i + 1) ≤ 4) ∧ (0 ≤ σ 97 (28 * e + 7 * i + 2) ∧ σ 97 (28 * e + 7 * i + 2) ≤ 3) ∧ (0 ≤ σ 97 (28 * e + 7 * i + 3) ∧ σ 97 (28 * e + 7 * i + 3) ≤ 11) ∧ (0 ≤ σ 97 (28 * e + 7 * i + 4) ∧ σ 97 (28 * e + 7 * i + 4) ≤ 9999) ∧ (0 ≤ σ 97 (28 * e + 7 * i + 5) ∧ σ 97 (28 * e + 7 * i + 5) ≤ 9999) ∧ (0 ≤ σ 97 (28 * e + 7 * i + 6) ∧ σ 97 (28 * e + 7 * i + 6) ≤ 11)
def Ip (σ : Hp) : Prop := ∀ e i, 0 ≤ e → e < 4 → 0 ≤ i → i < σ 99 e → 0 ≤ σ 100 (3 * e + i) ∧ σ 100 (3 * e + i) ≤ 11
def Ig (σ : Hp) : Prop := ∀ e, 0 ≤ e → e < 4 → (0 < σ 104 e → 0 ≤ σ 105 (4 * e) ∧ σ 105 (4 * e) < σ 98 e ∧ 0 ≤ σ 105 (4 * e + 1) ∧ σ 105 (4 * e + 1) ≤ 9999) ∧ (1 < σ 104 e → σ 105 (4 * e) < σ 105 (4 * e + 2) ∧ σ 105 (4 * e + 2) < σ 98 e ∧ 0 ≤ σ 105 (4 * e + 3) ∧ σ 105 (4 * e + 3) ≤ 9999)
def Id (σ : Hp) : Prop := ∀ l, 0 ≤ l → l < 2 → 1 ≤ σ 108 l ∧ σ 108 l ≤ 9
/-- a packet at the place a of row r -/
def Pk (σ : Hp) (n r a : Int) : Prop := (0 ≤ σ r a ∧ σ r a ≤ 3) ∧ (0 ≤ σ r (a + 1) ∧ σ r (a + 1) ≤ 4) ∧ (0 ≤ σ r (a + 2) ∧ σ r (a + 2) ≤ n) ∧ (σ r (a + 1) = 0 → (0 ≤ σ r (a + 3) ∧ σ r (a + 3) ≤ 4) ∧ (0 ≤ σ r (a + 4) ∧ σ r (a + 4) ≤ 3) ∧ (0 ≤ σ r (a + 5) ∧ σ r (a + 5) ≤ 11) ∧ (0 ≤ σ r (a + 6) ∧ σ r (a + 6) ≤ 9999) ∧ (0 ≤ σ r (a + 7) ∧ σ r (a + 7) ≤ 9999)) ∧ (0 ≤ σ r (a + 8) ∧ σ r (a + 8) ≤ 9999) ∧ (0 ≤ σ r (a + 9) ∧ σ r (a + 9) ≤ 10 * n + 10) ∧ (0 ≤ σ r (a + 10) ∧ σ r (a + 10) < σ 89 22)
def Iq (σ : Hp) (n m : Int) : Prop := (0 ≤ σ 89 21 ∧ σ 89 21 ≤ 24) ∧ (0 ≤ σ 89 19 ∧ σ 89 19 ≤ 10 * n) ∧ (0 ≤ σ 89 22 ∧ σ 89 22 ≤ m) ∧ (0 ≤ σ 89 28 ∧ σ 89 28 ≤ n) ∧ (0 ≤ σ 89 29 ∧ σ 89 29 ≤ m) ∧ (∀ i, 0 ≤ i → i < σ 89 21 → Pk σ n 109 (11 * i)) ∧ ∀ i j, 0 ≤ i → i < j → j < σ 89 21 → σ 109 (11 * i + 10) < σ 109 (11 * j + 10)
def It (σ : Hp) (n : Int) : Prop := ∀ j, 0 ≤ j → j < 2 → 0 ≤ σ 111 j ∧ σ 111 j ≤ σ 112 j ∧ σ 112 j + σ 96 j + σ 96 (j + 2) + σ 99 j + σ 99 (j + 2) ≤ n
def Ix (σ : Hp) : Prop := 0 ≤ σ 89 31 ∧ σ 89 31 ≤ 200 ∧ ∀ i, 0 ≤ i → i < σ 89 31 → 0 ≤ σ 114 i ∧ σ 114 i ≤ 255
def IV (σ : Hp) (n m : Int) : Prop := ST σ ∧ (0 ≤ n ∧ n ≤ 512 ∧ 0 ≤ m ∧ m ≤ 100000) ∧ Ic σ ∧ Ik σ ∧ Ie σ n ∧ Iw σ n ∧ Ip σ ∧ Ig σ ∧ Id σ ∧ Iq σ n m ∧ It σ n ∧ Ix σ
theorem IV.s {σ : Hp} {n m : Int} (h : IV σ n m) : ST σ := h.1
theorem IV.n {σ : Hp} {n m : Int} (h : IV σ n m) : 0 ≤ n ∧ n ≤ 512 ∧ 0 ≤ m ∧ m ≤ 100000 := h.2.1
theorem IV.c {σ : Hp} {n m : Int} (h : IV σ n m) : Ic σ := h.2.2.1
theorem IV.k {σ : Hp} {n m : Int} (h : IV σ n m) : Ik σ := h.2.2.2.1
theorem IV.e {σ : Hp} {n m : Int} (h : IV σ n m) : Ie σ n := h.2.2.2.2.1
theorem IV.w {σ : Hp} {n m : Int} (h : IV σ n m) : Iw σ n := h.2.2.2.2.2.1
theorem IV.p {σ : Hp} {n m : Int} (h : IV σ n m) : Ip σ := h.2.2.2.2.2.2.1
theorem IV.g {σ : Hp} {n m : Int} (h : IV σ n m) : Ig σ := h.2.2.2.2.2.2.2.1
theorem IV.d {σ : Hp} {n m : Int} (h : IV σ n m) : Id σ := h.2.2.2.2.2.2.2.2.1
theorem IV.q {σ : Hp} {n m : Int} (h : IV σ n m) : Iq σ n m := h.2.2.2.2.2.2.2.2.2.1
theorem IV.t {σ : Hp} {n m : Int} (h : IV σ n m) : It σ n := h.2.2.2.2.2.2.2.2.2.2.1
theorem IV.x {σ : Hp} {n m : Int} (h : IV σ n m) : Ix σ := h.2.2.2.2.2.2.2.2.2.2.2
section R1
variable {G : GG} {b : Nat × Nat} {Q : Option VV → Hp → Prop} {g σ : Hp}
def T0 (e : Int) (σ : Hp) : Int := 5 * (600 * (e % 2) + σ 112 (e % 2))
def F_tells (e k n r v : Int) (σ : Hp) : Hp := wr (wr (wr (wr (wr (wr σ 110 (T0 e σ) e) 110 (T0 e σ + 1) k) 110 (T0 e σ + 2) n) 110 (T0 e σ + 3) r) 110 (T0 e σ + 4) v) 112 (e % 2) (σ 112 (e % 2) + 1)
set_option maxHeartbeats 4000000 in
theorem R_tells {e k n r v : Int} (hT : ST σ) (h0 : 0 ≤ e) (h1 : 0 ≤ σ 112 (e % 2)) (h2 : σ 112 (e % 2) < 600) (hk : Q none (mg g (F_tells e k n r v σ))) : Runs G mm_X10_tells [vR 89, vI e, vI k, vI n, vI r, vI v] (mg g σ) Q := by
  refine rn_X10_tells ?_
  simp (disch := omega) only [mg_in, mg_wr, wr_a, hT, forall_eq, true_and, inI, Int.add_zero]
  (repeat' (refine And.intro ?_ ?_)) <;> intros <;> (repeat' (refine And.intro ?_ ?_)) <;> intros <;> (repeat' (refine And.intro ?_ ?_)) <;> intros <;> (repeat' (refine And.intro ?_ ?_)) <;> intros
  all_goals first | omega | exact hk
def F_anew (e s : Int) (σ : Hp) : Hp := wr (wr (wr (wr (wr (wr (wr (wr (wr σ 94 e s) 95 e 0) 96 e 0) 98 e 0) 99 e 0) 101 e 0) 102 e 0) 103 e 0) 104 e 0
set_option maxHeartbeats 4000000 in
theorem R_endAnew {e s : Int} (hT : ST σ) (h0 : 0 ≤ e) (h1 : e < 4) (hk : Q none (mg g (F_anew e s σ))) : Runs G mm_X10_endAnew [vR 89, vI e, vI s] (mg g σ) Q := by
  refine rn_X10_endAnew ?_
  simp (disch := omega) only [mg_in, mg_wr, wr_a, hT, forall_eq, true_and, inI, Int.add_zero]
  (repeat' (refine And.intro ?_ ?_)) <;> intros <;> (repeat' (refine And.intro ?_ ?_)) <;> intros <;> (repeat' (refine And.intro ?_ ?_)) <;> intros <;> (repeat' (refine And.intro ?_ ?_)) <;> intros
  all_goals first | omega | exact hk
def F_keys (a b l r : Int) (σ : Hp) : Hp := wr (wr (wr σ 91 a b) 92 a l) 93 a r
set_option maxHeartbeats 4000000 in
theorem R_keys {a c l r : Int} (hT : ST σ) (h0 : 0 ≤ a) (h1 : a < 8) (hk : Q none (mg g (F_keys a c l r σ))) : Runs G mm_X10_keys [vR 89, vI a, vI c, vI l, vI r] (mg g σ) Q := by
  refine rn_X10_keys ?_
  simp (disch := omega) only [mg_in, mg_wr, wr_a, hT, forall_eq, true_and, inI, Int.add_zero]
  (repeat' (refine And.intro ?_ ?_)) <;> intros <;> (repeat' (refine And.intro ?_ ?_)) <;> intros <;> (repeat' (refine And.intro ?_ ?_)) <;> intros <;> (repeat' (refine And.intro ?_ ?_)) <;> intros
  all_goals first | omega | exact hk
def kc (σ : Hp) (j : Int) : Nat → Int
  | 0 => 0
  | n + 1 => kc σ j n + b2i (0 < σ 92 (4 * j + n))
theorem kc_in (σ : Hp) (j : Int) : ∀ n : Nat, 0 ≤ kc σ j n ∧ kc σ j n ≤ n
  | 0 => ⟨Int.le_refl _, Int.le_refl _⟩
  | n + 1 => by
    have ih := kc_in σ j n
    have := b2i_or (p := 0 < σ 92 (4 * j + n))
    unfold kc
    omega
theorem L_keysOf {j : Int} (hT : ST σ) (h0 : 0 ≤ j) (h1 : j < 2) (hk : Q (some (vI (kc σ j 4))) (mg g σ)) : ∀ (n i : Nat), i + n = 4 → AW G mm_X10_keysOf b 4 [(0, vR 89), (1, vI j), (2, vI (kc σ j i)), (3, vI (i : Int))] [] (mg g σ) Q := by
  intro n
  induction n with
  | zero =>
    intro i hi
    have hi4 : i = 4 := by omega
    subst hi4
    refine sg_X10_keysOf_4 ⟨fun _ => hk, fun hc => absurd hc (by decide)⟩
  | succ n ih =>
    intro i hi
    have kb := kc_in σ j i
    have e1 : kc σ j (i + 1) = kc σ j i + b2i (0 < σ 92 (4 * j + i)) := rfl
    have ihk := ih (i + 1) (by omega)
    rw [e1, show ((i + 1 : Nat) : Int) = (i : Int) + 1 from rfl] at ihk
    refine sg_X10_keysOf_4 ⟨fun hc => absurd hc (by omega), fun _ => ?_⟩
    simp (disch := omega) only [mg_in, mg_wr, wr_a, hT, forall_eq, true_and, inI, Int.add_zero]
    (repeat' (refine And.intro ?_ ?_)) <;> intros <;> (repeat' (refine And.intro ?_ ?_)) <;> intros <;> (repeat' (refine And.intro ?_ ?_)) <;> intros <;> (repeat' (refine And.intro ?_ ?_)) <;> intros
    all_goals first
      | omega
      | (rw [b2i_f (by omega)] at ihk; exact ihk)
      | (rw [b2i_t (by omega)] at ihk; exact ihk)
      | (rw [b2i_f (by omega), Int.add_zero] at ihk; exact ihk)
theorem R_keysOf {j : Int} (hT : ST σ) (h0 : 0 ≤ j) (h1 : j < 2) (hk : Q (some (vI (kc σ j 4))) (mg g σ)) : Runs G mm_X10_keysOf [vR 89, vI j] (mg g σ) Q := rn_X10_keysOf (L_keysOf hT h0 h1 hk 4 0 rfl)
def rc (σ : Hp) : Nat → Int
  | 0 => 0
  | n + 1 => rc σ n + b2i (σ 94 n = 1)
theorem rc_in (σ : Hp) : ∀ n : Nat, 0 ≤ rc σ n ∧ rc σ n ≤ n
  | 0 => ⟨Int.le_refl _, Int.le_refl _⟩
  | n + 1 => by
    have ih := rc_in σ n
    have := b2i_or (p := σ 94 n = 1)
    unfold rc
    omega
theorem L_readyEnds (hT : ST σ) (hk : Q (some (vI (rc σ 4))) (mg g σ)) : ∀ (n i : Nat), i + n = 4 → AW G mm_X10_readyEnds b 4 [(0, vR 89), (1, vI (rc σ i)), (2, vI (i : Int))] [] (mg g σ) Q := by
  intro n
  induction n with
  | zero =>
    intro i hi
    have hi4 : i = 4 := by omega
    subst hi4
    refine sg_X10_readyEnds_4 ⟨fun _ => hk, fun hc => absurd hc (by decide)⟩
  | succ n ih =>
    intro i hi
    have kb := rc_in σ i
    have e1 : rc σ (i + 1) = rc σ i + b2i (σ 94 i = 1) := rfl
    have ihk := ih (i + 1) (by omega)
    rw [e1, show ((i + 1 : Nat) : Int) = (i : Int) + 1 from rfl] at ihk
    refine sg_X10_readyEnds_4 ⟨fun hc => absurd hc (by omega), fun _ => ?_⟩
    simp (disch := omega) only [mg_in, mg_wr, wr_a, hT, forall_eq, true_and, inI, Int.add_zero]
    (repeat' (refine And.intro ?_ ?_)) <;> intros <;> (repeat' (refine And.intro ?_ ?_)) <;> intros <;> (repeat' (refine And.intro ?_ ?_)) <;> intros <;> (repeat' (refine And.intro ?_ ?_)) <;> intros
    all_goals first
      | omega
      | (rw [b2i_f (by omega)] at ihk; exact ihk)
      | (rw [b2i_t (by omega)] at ihk; exact ihk)
      | (rw [b2i_f (by omega), Int.add_zero] at ihk; exact ihk)
theorem R_readyEnds (hT : ST σ) (hk : Q (some (vI (rc σ 4))) (mg g σ)) : Runs G mm_X10_readyEnds [vR 89] (mg g σ) Q := rn_X10_readyEnds (L_readyEnds hT hk 4 0 rfl)
def cc (σ : Hp) : Nat → Int
  | 0 => 0
  | n + 1 => cc σ n + σ 90 n
theorem cc_in {σ : Hp} (h : Ic σ) : ∀ n : Nat, n ≤ 24 → 0 ≤ cc σ n ∧ cc σ n ≤ 9999 * n
  | 0, _ => ⟨Int.le_refl _, Int.le_refl _⟩
  | n + 1, hn => by
    have ih := cc_in h n (by omega)
    have := h n (by omega) (by omega)
    unfold cc
    omega
set_option maxHeartbeats 4000000 in
theorem R_isReady {l : Int} (hT : ST σ) (h0 : 0 ≤ l) (h1 : l < 2) (hk : Q (some (vI (b2i (σ 94 (2 * l) = 1 ∨ σ 94 (2 * l + 1) = 1)))) (mg g σ)) : Runs G mm_X10_isReady [vR 89, vI l] (mg g σ) Q := by
  refine rn_X10_isReady ?_
  simp (disch := omega) only [mg_in, mg_wr, wr_a, hT, forall_eq, true_and, inI, Int.add_zero]
  (repeat' (refine And.intro ?_ ?_)) <;> intros <;> (repeat' (refine And.intro ?_ ?_)) <;> intros <;> (repeat' (refine And.intro ?_ ?_)) <;> intros <;> (repeat' (refine And.intro ?_ ?_)) <;> intros
  all_goals first | omega | exact hk | (rw [b2i_t (by omega)] at hk; exact hk) | (rw [b2i_f (by omega)] at hk; exact hk)
end R1
