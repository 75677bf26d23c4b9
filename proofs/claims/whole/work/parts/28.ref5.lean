/-! the reference: an answer taken in; work posted -/
theorem IV.j {σ : Hp} {n m e : Int} (hI : IV σ n m) (h0 : 0 ≤ e) (h1 : e < 4) : 0 ≤ σ 112 (e % 2) ∧ σ 112 (e % 2) + σ 96 e + σ 99 e ≤ n := by
  have hJ := hI.t (e % 2) (by omega) (by omega)
  have a1 := hI.e (e % 2) (by omega) (by omega)
  have a2 := hI.e (e % 2 + 2) (by omega) (by omega)
  have c96 : e = e % 2 ∧ σ 96 e = σ 96 (e % 2) ∧ σ 99 e = σ 99 (e % 2) ∨ σ 96 e = σ 96 (e % 2 + 2) ∧ σ 99 e = σ 99 (e % 2 + 2) := (show e = e % 2 ∨ e = e % 2 + 2 by omega).imp (fun q => ⟨q, congrArg _ q, congrArg _ q⟩) (fun q => ⟨congrArg _ q, congrArg _ q⟩)
  omega
def opn (e r : Int) (σ : Hp) : Nat → Int
  | 0 => 0
  | n + 1 => if opn e r σ n = 0 then (if σ 97 (28 * e + 7 * n) = r then 1 else 0) else 1
theorem opn_or {e r : Int} {σ : Hp} : ∀ n : Nat, opn e r σ n = 0 ∨ opn e r σ n = 1
  | 0 => Or.inl rfl
  | n + 1 => by
    unfold opn
    (repeat' split) <;> omega
theorem opn_ex {e r : Int} {σ : Hp} : ∀ n : Nat, ¬ opn e r σ n = 0 → ∃ i : Int, 0 ≤ i ∧ i < n ∧ σ 97 (28 * e + 7 * i) = r
  | 0, h => absurd rfl h
  | n + 1, h => by
    by_cases c : opn e r σ n = 0
    · unfold opn at h
      rw [if_pos c] at h
      by_cases d : σ 97 (28 * e + 7 * n) = r
      · exact ⟨n, by omega, by omega, d⟩
      · rw [if_neg d] at h
        exact absurd rfl h
    · obtain ⟨i, i0, i1, i2⟩ := opn_ex n c
      exact ⟨i, i0, by omega, i2⟩
def F_an2 (e ty : Int) (σ : Hp) : Hp := if ty = 2 then (if σ 96 e ≤ 0 then σ else F_agn e σ) else if ty = 1 then (if σ 97 (28 * e + 1) ≤ 1 then F_old e 0 (σ 117 8) σ else wr (F_old e 0 (σ 117 8) σ) 90 (12 * (e % 2) + σ 97 (28 * e + 6)) (σ 117 8)) else if ty = 3 then (if σ 102 e + 1 = 4 then F_brk e (F_old e 4 0 (wr σ 102 e (σ 102 e + 1))) else wr σ 102 e (σ 102 e + 1)) else F_brk e (F_old e 1 (σ 117 8) σ)
def F_ans : Nat → Int → Int → Int → Hp → Hp
  | 0, _, _, _, σ => σ
  | n + 1, e, r, ty, σ => if 0 < σ 96 e ∧ σ 97 (28 * e) < r then (if σ 97 (28 * e + 1) ≤ 1 then F_ans n e r ty (F_old e 0 0 σ) else F_agn e σ) else F_an2 e ty σ
def F_and (e r ty : Int) (σ : Hp) : Hp := if ty = 2 then (if σ 96 e = 0 ∨ r < σ 97 (28 * e) then σ else F_ans 5 e r ty σ) else if opn e r σ (σ 96 e).toNat = 0 then σ else F_ans 5 e r ty σ
def pc (e : Int) (σ : Hp) : Nat → Int
  | 0 => 0
  | n + 1 => pc e σ n + (if σ 97 (28 * e + 7 * n + 1) ≤ 1 then 0 else 1)
theorem pc_in {e : Int} {σ : Hp} : ∀ n : Nat, 0 ≤ pc e σ n ∧ pc e σ n ≤ n
  | 0 => ⟨Int.le_refl _, Int.le_refl _⟩
  | n + 1 => by
    have := pc_in (e := e) (σ := σ) n
    unfold pc
    split <;> omega
def F_ps0 (e k v w c : Int) (σ : Hp) : Hp := wr (wr (wr (wr (wr (wr (wr (wr (wr σ 97 (7 * (4 * e + σ 96 e)) (σ 95 e)) 97 (7 * (4 * e + σ 96 e) + 1) k) 97 (7 * (4 * e + σ 96 e) + 2) (σ 106 e)) 97 (7 * (4 * e + σ 96 e) + 3) (σ 107 e)) 97 (7 * (4 * e + σ 96 e) + 4) v) 97 (7 * (4 * e + σ 96 e) + 5) w) 97 (7 * (4 * e + σ 96 e) + 6) c) 96 e (σ 96 e + 1)) 95 e (σ 95 e + 1)
/-- why no work is posted; 0 if it is -/
def psn (e k : Int) (σ : Hp) : Int := if ¬ σ 94 e = 1 then -1003 else if σ 96 e = 4 then -1004 else if ¬ k ≤ 1 ∧ pc e σ (σ 96 e).toNat = 2 then -1004 else 0
def F_pst (e k v w c : Int) (σ : Hp) : Hp := if psn e k σ = 0 then F_sw e (σ 96 e) (F_ps0 e k v w c σ) else σ
def A_pst (e k : Int) (σ : Hp) : Int := if psn e k σ = 0 then σ 95 e else psn e k σ
section R6
variable {G : GG} {b : Nat × Nat} {Q : Option VV → Hp → Prop} {g σ : Hp}
theorem R_agnI {e n m : Int} (hI : IV σ n m) (hm : m ≤ 99990) (h0 : 0 ≤ e) (h1 : e < 4) (ho : 1 ≤ σ 96 e) (hk : Q none (mg g (F_agn e σ))) : Runs G mm_X10_again [vR 89, vI e] (mg g σ) Q := by
  have hE := hI.e e h0 h1
  have hJ := hI.j h0 h1
  have hN := hI.n
  exact R_agn hI.s hI.sn (by omega) h0 h1 ho (by omega) (by omega) (by omega) (by omega) (by omega) hJ.1 (by omega) hk
theorem R_oldI {e r v n m : Int} (hI : IV σ n m) (h0 : 0 ≤ e) (h1 : e < 4) (ho : 1 ≤ σ 96 e) (hk : Q none (mg g (F_old e r v σ))) : Runs G mm_X10_tellsOldest [vR 89, vI e, vI r, vI v] (mg g σ) Q := by
  have hE := hI.e e h0 h1
  have hJ := hI.j h0 h1
  have hN := hI.n
  exact R_old hI.s h0 h1 hJ.1 (by omega) ho (by omega) hk
theorem R_brkI {e n m : Int} (hI : IV σ n m) (h0 : 0 ≤ e) (h1 : e < 4) (hk : Q none (mg g (F_brk e σ))) : Runs G mm_X10_breaks [vR 89, vI e] (mg g σ) Q := by
  have hE := hI.e e h0 h1
  have hJ := hI.j h0 h1
  have hN := hI.n
  exact R_brk hI.s h0 h1 (by omega) (by omega) (by omega) (by omega) hJ.1 (by omega) hk
set_option maxHeartbeats 4000000 in
theorem R_oldest {e : Int} (hT : ST σ) (h0 : 0 ≤ e) (h1 : e < 4) (hk : Q (some (vI (σ 97 (28 * e)))) (mg g σ)) : Runs G mm_X10_oldest [vR 89, vI e] (mg g σ) Q := by
  refine rn_X10_oldest ?_
  simp (disch := omega) only [mg_in, mg_wr, wr_a, hT, forall_eq, true_and, inI, Int.add_zero]
  (repeat' (refine And.intro ?_ ?_)) <;> intros <;> (repeat' (refine And.intro ?_ ?_)) <;> intros <;> (repeat' (refine And.intro ?_ ?_)) <;> intros <;> (repeat' (refine And.intro ?_ ?_)) <;> intros
  all_goals first | omega | exact hk
set_option maxHeartbeats 4000000 in
theorem L_isOpen {e r : Int} (hT : ST σ) (h0 : 0 ≤ e) (h1 : e < 4) (ho : σ 96 e ≤ 4) (hk : Q (some (vI (opn e r σ (σ 96 e).toNat))) (mg g σ)) : ∀ (n i : Nat), (i : Int) + n = σ 96 e → AW G mm_X10_isOpen b 5 [(0, vR 89), (1, vI e), (2, vI r), (3, vI (opn e r σ i)), (4, vI (i : Int))] [] (mg g σ) Q := by
  intro n
  induction n with
  | zero =>
    intro i hi
    have hi2 : (σ 96 e).toNat = i := by omega
    rw [hi2] at hk
    refine sg_X10_isOpen_5 ?_
    simp (disch := omega) only [mg_in, mg_wr, wr_a, hT, forall_eq, true_and, inI, Int.add_zero]
    (repeat' (refine And.intro ?_ ?_)) <;> intros <;> (repeat' (refine And.intro ?_ ?_)) <;> intros <;> (repeat' (refine And.intro ?_ ?_)) <;> intros <;> (repeat' (refine And.intro ?_ ?_)) <;> intros
    all_goals first | omega | exact hk | exact opn_or i
  | succ n ih =>
    intro i hi
    have ihk := ih (i + 1) (by omega)
    have e1 : opn e r σ (i + 1) = if opn e r σ i = 0 then (if σ 97 (28 * e + 7 * i) = r then 1 else 0) else 1 := rfl
    rw [e1, show ((i + 1 : Nat) : Int) = (i : Int) + 1 from rfl] at ihk
    have e2 : 7 * (4 * e + (i : Int)) = 28 * e + 7 * i := by omega
    refine sg_X10_isOpen_5 ?_
    simp (disch := omega) only [mg_in, mg_wr, wr_a, hT, forall_eq, true_and, inI, Int.add_zero]
    rw [e2]
    (repeat' (refine And.intro ?_ ?_)) <;> intros <;> (repeat' (refine And.intro ?_ ?_)) <;> intros <;> (repeat' (refine And.intro ?_ ?_)) <;> intros <;> (repeat' (refine And.intro ?_ ?_)) <;> intros <;> (repeat' (refine And.intro ?_ ?_)) <;> intros <;> (repeat' (refine And.intro ?_ ?_)) <;> intros <;> (repeat' (refine And.intro ?_ ?_)) <;> intros <;> (repeat' (refine And.intro ?_ ?_)) <;> intros
    all_goals first
      | omega
      | ((repeat' split at ihk) <;> first | exact ihk | omega | contradiction)
theorem R_isOpen {e r : Int} (hT : ST σ) (h0 : 0 ≤ e) (h1 : e < 4) (ho0 : 0 ≤ σ 96 e) (ho : σ 96 e ≤ 4) (hk : Q (some (vI (opn e r σ (σ 96 e).toNat))) (mg g σ)) : Runs G mm_X10_isOpen [vR 89, vI e, vI r] (mg g σ) Q :=
  rn_X10_isOpen (L_isOpen hT h0 h1 ho hk (σ 96 e).toNat 0 (by omega))
set_option maxHeartbeats 8000000 in
/-- what follows the loop of an answer; s0 = the oldest number, if there is one -/
theorem R_an2 {e ty n m : Int} (hI : IV σ n m) (hm : m ≤ 99990) (h0 : 0 ≤ e) (h1 : e < 4) (ho : ty = 2 ∨ 1 ≤ σ 96 e) (hk : Q none (mg g (F_an2 e ty σ))) :
    (¬ ty = 2 → ¬ ty = 1 → ¬ ty = 3 → Runs G mm_X10_tellsOldest [vR 89, vI e, vI 1, vI (σ 117 8)] (mg g σ) (fun r h' => AW G mm_X10_answered b 235 [(0, vR 89), (1, vI e)] (r.toList ++ []) h' Q)) ∧
    (ty = 3 → ¬ σ 102 e + 1 = 4 → Q none (mg g (wr σ 102 e (σ 102 e + 1)))) ∧
    (ty = 3 → σ 102 e + 1 = 4 → Runs G mm_X10_tellsOldest [vR 89, vI e, vI 4, vI 0] (mg g (wr σ 102 e (σ 102 e + 1))) (fun r h' => AW G mm_X10_answered b 214 [(0, vR 89), (1, vI e)] (r.toList ++ []) h' Q)) ∧
    (ty = 1 → Runs G mm_X10_tellsOldest [vR 89, vI e, vI 0, vI (σ 117 8)] (mg g σ) (fun r h' => AW G mm_X10_answered b 152 [(0, vR 89), (1, vI e), (4, vI (σ 97 (28 * e + 1))), (5, vI (σ 97 (28 * e + 6)))] (r.toList ++ []) h' Q)) ∧
    (ty = 2 → σ 96 e ≤ 0 → Q none (mg g σ)) ∧
    (ty = 2 → ¬ σ 96 e ≤ 0 → Runs G mm_X10_again [vR 89, vI e] (mg g σ) (fun r h' => AW G mm_X10_answered b 104 [] (r.toList ++ []) h' Q)) := by
  have hE := hI.e e h0 h1
  have hJ := hI.j h0 h1
  have hN := hI.n
  unfold F_an2 at hk
  refine ⟨fun q1 q2 q3 => ?_, fun q1 q2 => ?_, fun q1 q2 => ?_, fun q1 => ?_, fun q1 q2 => ?_, fun q1 q2 => ?_⟩
  · rw [if_neg q1, if_neg q2, if_neg q3] at hk
    refine R_oldI hI h0 h1 (by omega) ?_
    have hO := iv_old (r := 1) (v := σ 117 8) hI h0 h1 (by omega)
    refine sg_X10_answered_235 ⟨by rw [mg_in (by decide) (by decide)]; exact hO.s.1, ?_⟩
    exact R_brkI hO h0 h1 (sg_X10_answered_240 hk)
  · rw [if_neg (by omega), if_neg (by omega), if_pos q1, if_neg q2] at hk
    exact hk
  · rw [if_neg (by omega), if_neg (by omega), if_pos q1, if_pos q2] at hk
    have hW : ST (wr σ 102 e (σ 102 e + 1)) := st_wr hI.s (by decide) (by decide) h0
    have w96 : wr σ 102 e (σ 102 e + 1) 96 e = σ 96 e := wr_a (by decide)
    have w99 : wr σ 102 e (σ 102 e + 1) 99 e = σ 99 e := wr_a (by decide)
    have w12 : wr σ 102 e (σ 102 e + 1) 112 (e % 2) = σ 112 (e % 2) := wr_a (by decide)
    refine R_old hW h0 h1 (by rw [w12]; omega) (by rw [w12]; omega) (by rw [w96]; omega) (by rw [w96]; omega) ?_
    have hO := st_old (e := e) (r := 4) (v := 0) hW h0 (by rw [w12]; omega)
    have o96 : F_old e 4 0 (wr σ 102 e (σ 102 e + 1)) 96 e = σ 96 e - 1 := by rw [old_96, w96]
    have o99 : F_old e 4 0 (wr σ 102 e (σ 102 e + 1)) 99 e = σ 99 e := by rw [old_off (by decide) (by decide) (by decide) (by decide) (by decide) (by decide), w99]
    have o12 : F_old e 4 0 (wr σ 102 e (σ 102 e + 1)) 112 (e % 2) = σ 112 (e % 2) + 1 := by rw [old_112, w12]
    refine sg_X10_answered_214 ⟨by rw [mg_in (by decide) (by decide)]; exact hO.1, ?_⟩
    refine R_brk hO h0 h1 (by rw [o96]; omega) (by rw [o96]; omega) (by rw [o99]; omega) (by rw [o99]; omega) (by rw [o12]; omega) (by rw [o96, o99, o12]; omega) ?_
    exact sg_X10_answered_219 hk
  · rw [if_neg (by omega), if_pos q1] at hk
    refine R_oldI hI h0 h1 (by omega) ?_
    have hW := hI.w e 0 h0 h1 (Int.le_refl 0) (by omega)
    have hT := (iv_old (r := 0) (v := σ 117 8) hI h0 h1 (by omega)).s
    have o17 : F_old e 0 (σ 117 8) σ 117 8 = σ 117 8 := by rw [old_off (by decide) (by decide) (by decide) (by decide) (by decide) (by decide)]
    refine sg_X10_answered_152 ?_
    simp (disch := omega) only [mg_in, mg_wr, wr_a, hT, forall_eq, true_and, inI, Int.add_zero]
    rw [o17]
    rw [Int.mul_zero, Int.add_zero] at hW
    (repeat' (refine And.intro ?_ ?_)) <;> intros <;> (repeat' (refine And.intro ?_ ?_)) <;> intros <;> (repeat' (refine And.intro ?_ ?_)) <;> intros <;> (repeat' (refine And.intro ?_ ?_)) <;> intros
    all_goals first
      | omega
      | (rw [if_pos (by omega)] at hk; exact hk)
      | (rw [if_neg (by omega)] at hk; exact hk)
  · rw [if_pos q1, if_pos q2] at hk
    exact hk
  · rw [if_pos q1, if_neg q2] at hk
    exact R_agnI hI hm h0 h1 (by omega) (sg_X10_answered_104 hk)
set_option maxHeartbeats 8000000 in
theorem L_ans {e r ty n m : Int} (hm : m ≤ 99990) (h0 : 0 ≤ e) (h1 : e < 4) : ∀ (k : Nat) (σ : Hp), IV σ n m → σ 96 e < k → (ty = 2 ∨ ∃ i, 0 ≤ i ∧ i < σ 96 e ∧ σ 97 (28 * e + 7 * i) = r) → Q none (mg g (F_ans k e r ty σ)) → AW G mm_X10_answered b 36 [(0, vR 89), (1, vI e), (2, vI r), (3, vI ty)] [] (mg g σ) Q := by
  intro k
  induction k with
  | zero =>
    intro σ hI hk
    have := (hI.e e h0 h1).2.2.1
    omega
  | succ k ih =>
    intro σ hI hk1 hx hk
    have hk : Q none (mg g (if 0 < σ 96 e ∧ σ 97 (28 * e) < r then (if σ 97 (28 * e + 1) ≤ 1 then F_ans k e r ty (F_old e 0 0 σ) else F_agn e σ) else F_an2 e ty σ)) := hk
    have hT := hI.s
    have hE := hI.e e h0 h1
    have ho : ty = 2 ∨ 1 ≤ σ 96 e := hx.imp id (fun ⟨i, i0, i1, _⟩ => by omega)
    by_cases hz : σ 96 e ≤ 0
    · rw [if_neg (by omega)] at hk
      obtain ⟨p1, p2, p3, p4, p5, p6⟩ := R_an2 (G := G) (b := b) (Q := Q) (g := g) hI hm h0 h1 ho hk
      refine sg_X10_answered_36 ?_
      simp (disch := omega) only [mg_in, mg_wr, wr_a, hT, forall_eq, true_and, inI, Int.add_zero]
      (repeat' (refine And.intro ?_ ?_)) <;> intros <;> (repeat' (refine And.intro ?_ ?_)) <;> intros <;> (repeat' (refine And.intro ?_ ?_)) <;> intros <;> (repeat' (refine And.intro ?_ ?_)) <;> intros <;> (repeat' (refine And.intro ?_ ?_)) <;> intros <;> (repeat' (refine And.intro ?_ ?_)) <;> intros <;> (repeat' (refine And.intro ?_ ?_)) <;> intros <;> (repeat' (refine And.intro ?_ ?_)) <;> intros
      all_goals first | omega | exact p5 (by omega) (by omega)
    · have hR : Runs G mm_X10_oldest [vR 89, vI e] (mg g σ) (fun r' h' => AW G mm_X10_answered b 50 [(0, vR 89), (1, vI e), (2, vI r), (3, vI ty)] (r'.toList ++ []) h' Q) := by
        refine R_oldest hT h0 h1 ?_
        show AW G mm_X10_answered b 50 [(0, vR 89), (1, vI e), (2, vI r), (3, vI ty)] [vI (σ 97 (28 * e))] (mg g σ) Q
        by_cases hl : σ 97 (28 * e) < r
        · rw [if_pos (by omega)] at hk
          by_cases hq : σ 97 (28 * e + 1) ≤ 1
          · rw [if_pos hq] at hk
            have hO := iv_old (r := 0) (v := 0) hI h0 h1 (by omega)
            have hL := ih _ hO (by rw [old_96]; omega) (hx.imp id (fun ⟨i, i0, i1, i2⟩ => by
              have hi : i ≠ 0 := fun h => by
                subst h
                rw [Int.mul_zero, Int.add_zero] at i2
                omega
              refine ⟨i - 1, by omega, by rw [old_96]; omega, ?_⟩
              rw [old_97i (by omega) (by omega), show 28 * e + 7 * (i - 1) + 7 = 28 * e + 7 * i by omega]
              exact i2)) hk
            have hR2 : Runs G mm_X10_tellsOldest [vR 89, vI e, vI 0, vI 0] (mg g σ) (fun r' h' => AW G mm_X10_answered b 82 [(0, vR 89), (1, vI e), (2, vI r), (3, vI ty)] (r'.toList ++ []) h' Q) := R_oldI hI h0 h1 (by omega) (sg_X10_answered_82 hL)
            refine sg_X10_answered_50 ?_
            simp (disch := omega) only [mg_in, mg_wr, wr_a, hT, forall_eq, true_and, inI, Int.add_zero]
            (repeat' (refine And.intro ?_ ?_)) <;> intros <;> (repeat' (refine And.intro ?_ ?_)) <;> intros <;> (repeat' (refine And.intro ?_ ?_)) <;> intros <;> (repeat' (refine And.intro ?_ ?_)) <;> intros <;> (repeat' (refine And.intro ?_ ?_)) <;> intros <;> (repeat' (refine And.intro ?_ ?_)) <;> intros <;> (repeat' (refine And.intro ?_ ?_)) <;> intros <;> (repeat' (refine And.intro ?_ ?_)) <;> intros
            all_goals first | omega | exact hR2
          · rw [if_neg hq] at hk
            have hR2 : Runs G mm_X10_again [vR 89, vI e] (mg g σ) (fun r' h' => AW G mm_X10_answered b 74 [] (r'.toList ++ []) h' Q) := R_agnI hI hm h0 h1 (by omega) (sg_X10_answered_74 hk)
            refine sg_X10_answered_50 ?_
            simp (disch := omega) only [mg_in, mg_wr, wr_a, hT, forall_eq, true_and, inI, Int.add_zero]
            (repeat' (refine And.intro ?_ ?_)) <;> intros <;> (repeat' (refine And.intro ?_ ?_)) <;> intros <;> (repeat' (refine And.intro ?_ ?_)) <;> intros <;> (repeat' (refine And.intro ?_ ?_)) <;> intros <;> (repeat' (refine And.intro ?_ ?_)) <;> intros <;> (repeat' (refine And.intro ?_ ?_)) <;> intros <;> (repeat' (refine And.intro ?_ ?_)) <;> intros <;> (repeat' (refine And.intro ?_ ?_)) <;> intros
            all_goals first | omega | exact hR2
        · rw [if_neg (by omega)] at hk
          obtain ⟨p1, p2, p3, p4, p5, p6⟩ := R_an2 (G := G) (b := b) (Q := Q) (g := g) hI hm h0 h1 ho hk
          refine sg_X10_answered_50 ?_
          simp (disch := omega) only [mg_in, mg_wr, wr_a, hT, forall_eq, true_and, inI, Int.add_zero]
          (repeat' (refine And.intro ?_ ?_)) <;> intros <;> (repeat' (refine And.intro ?_ ?_)) <;> intros <;> (repeat' (refine And.intro ?_ ?_)) <;> intros <;> (repeat' (refine And.intro ?_ ?_)) <;> intros <;> (repeat' (refine And.intro ?_ ?_)) <;> intros <;> (repeat' (refine And.intro ?_ ?_)) <;> intros <;> (repeat' (refine And.intro ?_ ?_)) <;> intros <;> (repeat' (refine And.intro ?_ ?_)) <;> intros
          all_goals first
            | omega
            | exact p1 (by omega) (by omega) (by omega)
            | exact p2 (by omega) (by omega)
            | exact p3 (by omega) (by omega)
            | exact p4 (by omega)
            | exact p5 (by omega) (by omega)
            | exact p6 (by omega) (by omega)
      refine sg_X10_answered_36 ?_
      simp (disch := omega) only [mg_in, mg_wr, wr_a, hT, forall_eq, true_and, inI, Int.add_zero]
      (repeat' (refine And.intro ?_ ?_)) <;> intros <;> (repeat' (refine And.intro ?_ ?_)) <;> intros <;> (repeat' (refine And.intro ?_ ?_)) <;> intros <;> (repeat' (refine And.intro ?_ ?_)) <;> intros <;> (repeat' (refine And.intro ?_ ?_)) <;> intros <;> (repeat' (refine And.intro ?_ ?_)) <;> intros <;> (repeat' (refine And.intro ?_ ?_)) <;> intros <;> (repeat' (refine And.intro ?_ ?_)) <;> intros
      all_goals first | omega | exact hR
set_option maxHeartbeats 8000000 in
theorem R_ans {e r ty n m : Int} (hI : IV σ n m) (hm : m ≤ 99990) (h0 : 0 ≤ e) (h1 : e < 4) (hk : Q none (mg g (F_and e r ty σ))) : Runs G mm_X10_answered [vR 89, vI e, vI r, vI ty] (mg g σ) Q := by
  have hT := hI.s
  have hE := hI.e e h0 h1
  unfold F_and at hk
  by_cases h2 : ty = 2
  · rw [if_pos h2] at hk
    have hR : ¬ σ 96 e = 0 → Runs G mm_X10_oldest [vR 89, vI e] (mg g σ) (fun r' h' => AW G mm_X10_answered (0, 0) 20 [(0, vR 89), (1, vI e), (2, vI r), (3, vI ty)] (r'.toList ++ [vI r]) h' Q) := fun hz => by
      refine R_oldest hT h0 h1 ?_
      show AW G mm_X10_answered (0, 0) 20 [(0, vR 89), (1, vI e), (2, vI r), (3, vI ty)] [vI (σ 97 (28 * e)), vI r] (mg g σ) Q
      refine sg_X10_answered_20 ⟨fun hc => ?_, fun hc => ?_⟩
      · rw [if_neg (by omega)] at hk
        exact L_ans hm h0 h1 5 σ hI (by omega) (Or.inl h2) hk
      · rw [if_pos (by omega)] at hk
        exact hk
    refine rn_X10_answered ?_
    simp (disch := omega) only [mg_in, mg_wr, wr_a, hT, forall_eq, true_and, inI, Int.add_zero]
    (repeat' (refine And.intro ?_ ?_)) <;> intros <;> (repeat' (refine And.intro ?_ ?_)) <;> intros <;> (repeat' (refine And.intro ?_ ?_)) <;> intros <;> (repeat' (refine And.intro ?_ ?_)) <;> intros <;> (repeat' (refine And.intro ?_ ?_)) <;> intros <;> (repeat' (refine And.intro ?_ ?_)) <;> intros <;> (repeat' (refine And.intro ?_ ?_)) <;> intros <;> (repeat' (refine And.intro ?_ ?_)) <;> intros
    all_goals first
      | omega
      | (rw [if_pos (Or.inl (by assumption))] at hk; exact hk)
      | exact hR (by assumption)
  · rw [if_neg h2] at hk
    have hR : Runs G mm_X10_isOpen [vR 89, vI e, vI r] (mg g σ) (fun r' h' => AW G mm_X10_answered (0, 0) 32 [(0, vR 89), (1, vI e), (2, vI r), (3, vI ty)] (r'.toList ++ []) h' Q) := by
      refine R_isOpen hT h0 h1 (by omega) (by omega) ?_
      refine sg_X10_answered_32 ⟨fun hc => ?_, fun hc => ?_⟩
      · rw [if_neg hc] at hk
        obtain ⟨i, i0, i1, i2⟩ := opn_ex _ hc
        exact L_ans hm h0 h1 5 σ hI (by omega) (Or.inr ⟨i, i0, by omega, i2⟩) hk
      · rw [if_pos hc] at hk
        exact hk
    refine rn_X10_answered ?_
    simp (disch := omega) only [mg_in, mg_wr, wr_a, hT, forall_eq, true_and, inI, Int.add_zero]
    (repeat' (refine And.intro ?_ ?_)) <;> intros <;> (repeat' (refine And.intro ?_ ?_)) <;> intros <;> (repeat' (refine And.intro ?_ ?_)) <;> intros <;> (repeat' (refine And.intro ?_ ?_)) <;> intros <;> (repeat' (refine And.intro ?_ ?_)) <;> intros <;> (repeat' (refine And.intro ?_ ?_)) <;> intros <;> (repeat' (refine And.intro ?_ ?_)) <;> intros <;> (repeat' (refine And.intro ?_ ?_)) <;> intros
    all_goals first | omega | exact hR
end R6
