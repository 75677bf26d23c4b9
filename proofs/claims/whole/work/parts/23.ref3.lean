/-! the reference: sent, tried again, broken -/
def F_fin : Nat → Int → Hp → Hp
  | 0, _, σ => σ
  | n + 1, e, σ => F_fin n e (F_old e 2 0 σ)
def F_rcv : Nat → Int → Int → Hp → Hp
  | 0, _, _, σ => σ
  | n + 1, e, i, σ => F_rcv n e (i + 1) (F_tells e 5 (-1) 2 (σ 100 (3 * e + i)) σ)
def F_brk (e : Int) (σ : Hp) : Hp := wr (F_rcv (σ 99 e).toNat e 0 (F_fin (σ 96 e).toNat e (wr σ 94 e 2))) 99 e 0
theorem fin_off {e a : Int} (h1 : a ≠ 110) (h2 : a ≠ 112) (h3 : a ≠ 96) (h4 : a ≠ 97) (h5 : a ≠ 101) (h6 : a ≠ 102) : ∀ (n : Nat) (σ : Hp), F_fin n e σ a = σ a
  | 0, _ => rfl
  | n + 1, σ => by
    show F_fin n e (F_old e 2 0 σ) a = σ a
    rw [fin_off h1 h2 h3 h4 h5 h6 n, old_off h1 h2 h3 h4 h5 h6]
theorem fin_112 {e : Int} : ∀ (n : Nat) (σ : Hp), F_fin n e σ 112 (e % 2) = σ 112 (e % 2) + n
  | 0, _ => by show _ = _ + 0; rw [Int.add_zero]; rfl
  | n + 1, σ => by
    show F_fin n e (F_old e 2 0 σ) 112 (e % 2) = _
    rw [fin_112 n, old_112]
    omega
theorem fin_112o {e j : Int} (h : j ≠ e % 2) : ∀ (n : Nat) (σ : Hp), F_fin n e σ 112 j = σ 112 j
  | 0, _ => rfl
  | n + 1, σ => by
    show F_fin n e (F_old e 2 0 σ) 112 j = _
    rw [fin_112o h n, old_112o h]
theorem fin_96 {e : Int} : ∀ (n : Nat) (σ : Hp), F_fin n e σ 96 e = σ 96 e - n
  | 0, _ => by show _ = _ - 0; rw [Int.sub_zero]; rfl
  | n + 1, σ => by
    show F_fin n e (F_old e 2 0 σ) 96 e = _
    rw [fin_96 n, old_96]
    omega
theorem fin_96o {e j : Int} (h : j ≠ e) : ∀ (n : Nat) (σ : Hp), F_fin n e σ 96 j = σ 96 j
  | 0, _ => rfl
  | n + 1, σ => by
    show F_fin n e (F_old e 2 0 σ) 96 j = _
    rw [fin_96o h n, old_96o h]
theorem st_fin {e : Int} (he : 0 ≤ e) : ∀ (n : Nat) (σ : Hp), ST σ → 0 ≤ σ 112 (e % 2) → ST (F_fin n e σ)
  | 0, _, h, _ => h
  | n + 1, σ, h, h0 => st_fin he n _ (st_old h he h0) (by rw [old_112]; omega)
theorem rcv_off {e a : Int} (h1 : a ≠ 110) (h2 : a ≠ 112) : ∀ (n : Nat) (i : Int) (σ : Hp), F_rcv n e i σ a = σ a
  | 0, _, _ => rfl
  | n + 1, i, σ => by
    show F_rcv n e (i + 1) _ a = σ a
    rw [rcv_off h1 h2 n, tells_off h1 h2]
theorem rcv_112 {e : Int} : ∀ (n : Nat) (i : Int) (σ : Hp), F_rcv n e i σ 112 (e % 2) = σ 112 (e % 2) + n
  | 0, _, _ => by show _ = _ + 0; rw [Int.add_zero]; rfl
  | n + 1, i, σ => by
    show F_rcv n e (i + 1) _ 112 (e % 2) = _
    rw [rcv_112 n, tells_112]
    omega
theorem rcv_112o {e j : Int} (h : j ≠ e % 2) : ∀ (n : Nat) (i : Int) (σ : Hp), F_rcv n e i σ 112 j = σ 112 j
  | 0, _, _ => rfl
  | n + 1, i, σ => by
    show F_rcv n e (i + 1) _ 112 j = _
    rw [rcv_112o h n, tells_112o h]
theorem st_rcv {e : Int} : ∀ (n : Nat) (i : Int) (σ : Hp), ST σ → 0 ≤ σ 112 (e % 2) → ST (F_rcv n e i σ)
  | 0, _, _, h, _ => h
  | n + 1, i, σ, h, h0 => st_rcv n _ _ (st_tells h h0) (by rw [tells_112]; omega)
theorem st_brk {e : Int} {σ : Hp} (hT : ST σ) (he : 0 ≤ e) (h0 : 0 ≤ σ 112 (e % 2)) : ST (F_brk e σ) := by
  unfold F_brk
  refine st_wr (st_rcv _ _ _ (st_fin he _ _ (st_wr hT (by decide) (by decide) he) ?_) ?_) (by decide) (by decide) he
  · rw [wr_a (by decide)]; exact h0
  · rw [fin_112, wr_a (by decide)]; omega
section R3
variable {G : GG} {b : Nat × Nat} {Q : Option VV → Hp → Prop} {g σ : Hp}
set_option maxHeartbeats 4000000 in
theorem L_rcv {e : Int} (h0 : 0 ≤ e) (h1 : e < 4) : ∀ (n : Nat) (i : Int) (σ : Hp), ST σ → 0 ≤ i → i + n = σ 99 e → σ 99 e ≤ 3 → 0 ≤ σ 112 (e % 2) → σ 112 (e % 2) + n ≤ 600 → Q none (mg g (wr (F_rcv n e i σ) 99 e 0)) → AW G mm_X10_breaks b 28 [(0, vR 89), (1, vI e), (2, vI i)] [] (mg g σ) Q := by
  intro n
  induction n with
  | zero =>
    intro i σ hT hi hn h3 ht ht2 hk
    have hk : Q none (mg g (wr σ 99 e 0)) := hk
    refine sg_X10_breaks_28 ?_
    simp (disch := omega) only [mg_in, mg_wr, wr_a, hT, forall_eq, true_and, inI, Int.add_zero]
    (repeat' (refine And.intro ?_ ?_)) <;> intros <;> (repeat' (refine And.intro ?_ ?_)) <;> intros <;> (repeat' (refine And.intro ?_ ?_)) <;> intros <;> (repeat' (refine And.intro ?_ ?_)) <;> intros
    all_goals first | omega | exact hk
  | succ n ih =>
    intro i σ hT hi hn h3 ht ht2 hk
    refine sg_X10_breaks_28 ?_
    simp (disch := omega) only [mg_in, mg_wr, wr_a, hT, forall_eq, true_and, inI, Int.add_zero]
    (repeat' (refine And.intro ?_ ?_)) <;> intros <;> (repeat' (refine And.intro ?_ ?_)) <;> intros <;> (repeat' (refine And.intro ?_ ?_)) <;> intros <;> (repeat' (refine And.intro ?_ ?_)) <;> intros
    all_goals first
      | omega
      | (refine R_tells hT h0 ht (by omega) ?_
         refine sg_X10_breaks_56 ⟨⟨by omega, by omega⟩, ?_⟩
         refine ih (i + 1) _ (st_tells hT ht) (by omega) ?_ ?_ ?_ ?_ hk
         · rw [tells_off (by decide) (by decide)]; omega
         · rw [tells_off (by decide) (by decide)]; omega
         · rw [tells_112]; omega
         · rw [tells_112]; omega)
set_option maxHeartbeats 4000000 in
theorem L_fin {e : Int} (h0 : 0 ≤ e) (h1 : e < 4) : ∀ (n : Nat) (σ : Hp), ST σ → σ 96 e = n → n ≤ 4 → 0 ≤ σ 112 (e % 2) → σ 112 (e % 2) + n ≤ 600 → AW G mm_X10_breaks b 28 [(0, vR 89), (1, vI e), (2, vI 0)] [] (mg g (F_fin n e σ)) Q → AW G mm_X10_breaks b 7 [(0, vR 89), (1, vI e)] [] (mg g σ) Q := by
  intro n
  induction n with
  | zero =>
    intro σ hT hn h4 ht ht2 hk
    have hk : AW G mm_X10_breaks b 28 [(0, vR 89), (1, vI e), (2, vI 0)] [] (mg g σ) Q := hk
    refine sg_X10_breaks_7 ?_
    simp (disch := omega) only [mg_in, mg_wr, wr_a, hT, forall_eq, true_and, inI, Int.add_zero]
    (repeat' (refine And.intro ?_ ?_)) <;> intros <;> (repeat' (refine And.intro ?_ ?_)) <;> intros <;> (repeat' (refine And.intro ?_ ?_)) <;> intros <;> (repeat' (refine And.intro ?_ ?_)) <;> intros
    all_goals first | omega | exact hk
  | succ n ih =>
    intro σ hT hn h4 ht ht2 hk
    refine sg_X10_breaks_7 ?_
    simp (disch := omega) only [mg_in, mg_wr, wr_a, hT, forall_eq, true_and, inI, Int.add_zero]
    (repeat' (refine And.intro ?_ ?_)) <;> intros <;> (repeat' (refine And.intro ?_ ?_)) <;> intros <;> (repeat' (refine And.intro ?_ ?_)) <;> intros <;> (repeat' (refine And.intro ?_ ?_)) <;> intros
    all_goals first
      | omega
      | (refine R_old hT h0 h1 ht (by omega) (by omega) (by omega) ?_
         refine sg_X10_breaks_23 ?_
         refine ih _ (st_old hT h0 ht) ?_ (by omega) ?_ ?_ hk
         · rw [old_96]; omega
         · rw [old_112]; omega
         · rw [old_112]; omega)
set_option maxHeartbeats 4000000 in
theorem R_brk {e : Int} (hT : ST σ) (h0 : 0 ≤ e) (h1 : e < 4) (ho : 0 ≤ σ 96 e) (ho2 : σ 96 e ≤ 4) (hr : 0 ≤ σ 99 e) (hr2 : σ 99 e ≤ 3) (ht : 0 ≤ σ 112 (e % 2)) (ht2 : σ 112 (e % 2) + σ 96 e + σ 99 e ≤ 600) (hk : Q none (mg g (F_brk e σ))) : Runs G mm_X10_breaks [vR 89, vI e] (mg g σ) Q := by
  have hW : ST (wr σ 94 e 2) := st_wr hT (by decide) (by decide) h0
  have e1 : wr σ 94 e 2 112 (e % 2) = σ 112 (e % 2) := wr_a (by decide)
  have hF := st_fin h0 (σ 96 e).toNat _ hW (by rw [e1]; exact ht)
  have L2 := L_rcv (G := G) (b := (0, 0)) (Q := Q) (g := g) h0 h1 (σ 99 e).toNat 0 (F_fin (σ 96 e).toNat e (wr σ 94 e 2)) hF (Int.le_refl 0) (by rw [fin_off (by decide) (by decide) (by decide) (by decide) (by decide) (by decide), wr_a (by decide)]; omega) (by rw [fin_off (by decide) (by decide) (by decide) (by decide) (by decide) (by decide), wr_a (by decide)]; omega) (by rw [fin_112, e1]; omega) (by rw [fin_112, e1]; omega) hk
  have L1 := L_fin (G := G) (b := (0, 0)) (Q := Q) (g := g) h0 h1 (σ 96 e).toNat (wr σ 94 e 2) hW (by rw [wr_a (by decide)]; omega) (by omega) (by rw [e1]; exact ht) (by rw [e1]; omega) L2
  refine rn_X10_breaks ?_
  simp (disch := omega) only [mg_in, mg_wr, wr_a, hT, forall_eq, true_and, inI, Int.add_zero]
  (repeat' (refine And.intro ?_ ?_)) <;> intros <;> (repeat' (refine And.intro ?_ ?_)) <;> intros <;> (repeat' (refine And.intro ?_ ?_)) <;> intros <;> (repeat' (refine And.intro ?_ ?_)) <;> intros
  all_goals first | omega | exact L1
end R3
/-- a stretch filled by a function -/
def fl6 (σ : Hp) (a dst n : Int) (f : Int → Int) : Hp := fun c j => if c = a ∧ dst ≤ j ∧ j < dst + n then f (j - dst) else σ c j
theorem fl6_0 {σ : Hp} {a dst : Int} {f : Int → Int} : fl6 σ a dst 0 f = σ := by
  funext c j
  unfold fl6
  rw [if_neg (by omega)]
theorem fl6_off {σ : Hp} {a dst n c j : Int} {f : Int → Int} (h : c ≠ a) : fl6 σ a dst n f c j = σ c j := by
  unfold fl6
  rw [if_neg (by omega)]
theorem fl6_in {σ : Hp} {a dst n j : Int} {f : Int → Int} (h1 : dst ≤ j) (h2 : j < dst + n) : fl6 σ a dst n f a j = f (j - dst) := by
  unfold fl6
  rw [if_pos ⟨rfl, h1, h2⟩]
theorem fl6_out {σ : Hp} {a dst n c j : Int} {f : Int → Int} (h : j < dst ∨ dst + n ≤ j) : fl6 σ a dst n f c j = σ c j := by
  unfold fl6
  rw [if_neg (by omega)]
theorem fl6_s {σ : Hp} {a dst n x : Int} {f : Int → Int} (h0 : 0 ≤ n) (hx : x = f n) : wr (fl6 σ a dst n f) a (dst + n) x = fl6 σ a dst (n + 1) f := by
  subst hx
  funext c j
  unfold wr
  by_cases hc : c = a ∧ j = dst + n
  · rw [if_pos hc]
    unfold fl6
    rw [if_pos (by omega), hc.2]
    congr 1
    omega
  · rw [if_neg hc]
    unfold fl6
    by_cases hd : c = a ∧ dst ≤ j ∧ j < dst + n
    · rw [if_pos hd, if_pos (by omega)]
    · rw [if_neg hd, if_neg (by omega)]
theorem st_fl6 {σ : Hp} {a dst n : Int} {f : Int → Int} (hT : ST σ) (ha : a ≠ 89) (ha2 : a ≠ 116) (hd : 0 ≤ dst) : ST (fl6 σ a dst n f) :=
  ST_of hT (fun c => fl6_out (by omega)) (fun c => fl6_out (by omega)) (fun j _ _ _ => fl6_off (Ne.symm ha)) (fun j _ => fl6_off (Ne.symm ha)) (fun j _ => fl6_off (Ne.symm ha2))
def sf (w : Int) (σ : Hp) : Int → Int := fun k => if w < 0 then 0 else σ 97 (w + k)
def F_snd0 (e ty nb vl : Int) (σ τ : Hp) : Hp := wr (wr (wr (wr (wr (wr (wr (wr τ 109 (11 * σ 89 21) (iXor e 1)) 109 (11 * σ 89 21 + 1) ty) 109 (11 * σ 89 21 + 2) nb) 109 (11 * σ 89 21 + 8) vl) 109 (11 * σ 89 21 + 9) (σ 89 19 + σ 108 (e / 2))) 109 (11 * σ 89 21 + 10) (σ 89 22)) 89 22 (σ 89 22 + 1)) 89 21 (σ 89 21 + 1)
def F_snd (e ty nb vl w : Int) (σ : Hp) : Hp := if σ 89 21 = 24 then wr σ 89 29 (σ 89 29 + 1) else F_snd0 e ty nb vl σ (fl6 σ 109 (11 * σ 89 21 + 2) 6 (sf w σ))
def SN (σ : Hp) (m : Int) : Prop := (0 ≤ σ 89 21 ∧ σ 89 21 ≤ 24) ∧ (0 ≤ σ 89 19 ∧ σ 89 19 ≤ 10000) ∧ (0 ≤ σ 89 22 ∧ σ 89 22 ≤ m) ∧ (0 ≤ σ 89 29 ∧ σ 89 29 ≤ m) ∧ (1 ≤ σ 108 0 ∧ σ 108 0 ≤ 9) ∧ (1 ≤ σ 108 1 ∧ σ 108 1 ≤ 9) ∧ m ≤ 200000
theorem snd_off {e ty nb vl w a : Int} {σ : Hp} (h1 : a ≠ 109) (h2 : a ≠ 89) : F_snd e ty nb vl w σ a = σ a := by
  funext j
  unfold F_snd F_snd0
  split
  · rw [wr_a h2]
  · rw [wr_a h2, wr_a h2, wr_a h1, wr_a h1, wr_a h1, wr_a h1, wr_a h1, wr_a h1, fl6_off h1]
theorem snd_89 {e ty nb vl w k : Int} {σ : Hp} (h1 : k ≠ 21) (h2 : k ≠ 22) (h3 : k ≠ 29) : F_snd e ty nb vl w σ 89 k = σ 89 k := by
  unfold F_snd F_snd0
  split
  · rw [wr_k h3]
  · rw [wr_k h1, wr_k h2, wr_a (by decide), wr_a (by decide), wr_a (by decide), wr_a (by decide), wr_a (by decide), wr_a (by decide), fl6_off (by decide)]
theorem st_snd {e ty nb vl w : Int} {σ : Hp} (hT : ST σ) (h0 : 0 ≤ σ 89 21) : ST (F_snd e ty nb vl w σ) := by
  unfold F_snd F_snd0
  split
  · exact st_wrS hT (by decide)
  · exact st_wrS (st_wrS (st_wr (st_wr (st_wr (st_wr (st_wr (st_wr (st_fl6 hT (by decide) (by decide) (by omega)) (by decide) (by decide) (by omega)) (by decide) (by decide) (by omega)) (by decide) (by decide) (by omega)) (by decide) (by decide) (by omega)) (by decide) (by decide) (by omega)) (by decide) (by decide) (by omega)) (by decide)) (by decide)
theorem sn_snd {e ty nb vl w m : Int} {σ : Hp} (h : SN σ m) (hm : m ≤ 199999) : SN (F_snd e ty nb vl w σ) (m + 1) := by
  obtain ⟨h1, h2, h3, h4, h5, h6, h7⟩ := h
  unfold SN
  rw [snd_off (a := 108) (by decide) (by decide), snd_89 (k := 19) (by decide) (by decide) (by decide)]
  unfold F_snd F_snd0
  split
  · rw [wr_k (by decide), wr_k (by decide), wr_e]
    omega
  · rw [wr_e, wr_k (by decide), wr_e, wr_k (j := 29) (by decide), wr_k (j := 29) (by decide), wr_a (by decide), wr_a (by decide), wr_a (by decide), wr_a (by decide), wr_a (by decide), wr_a (by decide), fl6_off (by decide)]
    omega
section R4
variable {G : GG} {b : Nat × Nat} {Q : Option VV → Hp → Prop} {g σ : Hp}
set_option maxHeartbeats 8000000 in
theorem L_snd {e ty nb vl w m : Int} (hS : ST σ) (hN : SN σ m) (h0 : 0 ≤ e) (h1 : e < 4) (hf : ¬ σ 89 21 = 24) (hw : w < 0 ∨ w + 6 ≤ 112) (hw2 : -100 ≤ w) (hk : Q none (mg g (F_snd0 e ty nb vl σ (fl6 σ 109 (11 * σ 89 21 + 2) 6 (sf w σ))))) : ∀ (n : Nat) (i : Int), 0 ≤ i → i + n = 6 → AW G mm_X10_sends b 32 [(0, vR 89), (1, vI e), (2, vI ty), (3, vI nb), (4, vI vl), (5, vI w), (6, vI (11 * σ 89 21)), (7, vI i)] [] (mg g (fl6 σ 109 (11 * σ 89 21 + 2) i (sf w σ))) Q := by
  obtain ⟨s1, s2, s3, s4, s5, s6, s7⟩ := id hN
  intro n
  induction n with
  | zero =>
    intro i hi hn
    have hi2 : i = 6 := by omega
    subst hi2
    have hT := st_fl6 (a := 109) (dst := 11 * σ 89 21 + 2) (n := 6) (f := sf w σ) hS (by decide) (by decide) (by omega)
    have hd : 1 ≤ σ 108 (e / 2) ∧ σ 108 (e / 2) ≤ 9 := by
      rcases (show e / 2 = 0 ∨ e / 2 = 1 by omega) with q | q <;> rw [q] <;> assumption
    have f1 : ∀ k, fl6 σ 109 (11 * σ 89 21 + 2) 6 (sf w σ) 89 k = σ 89 k := fun k => fl6_off (by decide)
    have f2 : ∀ k, fl6 σ 109 (11 * σ 89 21 + 2) 6 (sf w σ) 108 k = σ 108 k := fun k => fl6_off (by decide)
    refine sg_X10_sends_32 ⟨fun _ => ?_, fun hc => absurd hc (by decide)⟩
    simp (disch := omega) only [mg_in, mg_wr, wr_a, hT, forall_eq, true_and, inI, Int.add_zero]
    simp only [f1, f2]
    (repeat' (refine And.intro ?_ ?_)) <;> intros <;> (repeat' (refine And.intro ?_ ?_)) <;> intros <;> (repeat' (refine And.intro ?_ ?_)) <;> intros <;> (repeat' (refine And.intro ?_ ?_)) <;> intros
    all_goals first | omega | exact hk
  | succ n ih =>
    intro i hi hn
    have hT := st_fl6 (a := 109) (dst := 11 * σ 89 21 + 2) (n := i) (f := sf w σ) hS (by decide) (by decide) (by omega)
    have f1 : ∀ k, fl6 σ 109 (11 * σ 89 21 + 2) i (sf w σ) 97 k = σ 97 k := fun k => fl6_off (by decide)
    have ihk := ih (i + 1) (by omega) (by omega)
    refine sg_X10_sends_32 ⟨fun hc => absurd hc (by omega), fun _ => ?_⟩
    simp (disch := omega) only [mg_in, mg_wr, wr_a, hT, forall_eq, true_and, inI, Int.add_zero]
    simp only [f1]
    (repeat' (refine And.intro ?_ ?_)) <;> intros <;> (repeat' (refine And.intro ?_ ?_)) <;> intros <;> (repeat' (refine And.intro ?_ ?_)) <;> intros <;> (repeat' (refine And.intro ?_ ?_)) <;> intros
    all_goals first
      | omega
      | (rw [fl6_s hi (by unfold sf; rw [if_pos (by omega)])]; exact ihk)
      | (rw [fl6_s hi (by unfold sf; rw [if_neg (by omega)])]; exact ihk)
set_option maxHeartbeats 4000000 in
theorem R_snd {e ty nb vl w m : Int} (hT : ST σ) (hN : SN σ m) (h0 : 0 ≤ e) (h1 : e < 4) (hw : w < 0 ∨ w + 6 ≤ 112) (hw2 : -100 ≤ w) (hk : Q none (mg g (F_snd e ty nb vl w σ))) : Runs G mm_X10_sends [vR 89, vI e, vI ty, vI nb, vI vl, vI w] (mg g σ) Q := by
  obtain ⟨s1, s2, s3, s4, s5, s6, s7⟩ := id hN
  unfold F_snd at hk
  refine rn_X10_sends ?_
  simp (disch := omega) only [mg_in, mg_wr, wr_a, hT, forall_eq, true_and, inI, Int.add_zero]
  by_cases hf : σ 89 21 = 24
  · rw [if_pos hf] at hk
    (repeat' (refine And.intro ?_ ?_)) <;> intros <;> (repeat' (refine And.intro ?_ ?_)) <;> intros <;> (repeat' (refine And.intro ?_ ?_)) <;> intros <;> (repeat' (refine And.intro ?_ ?_)) <;> intros
    all_goals first | omega | exact hk
  · rw [if_neg hf] at hk
    have hL := L_snd (G := G) (b := (0, 0)) (Q := Q) (g := g) (ty := ty) (nb := nb) (vl := vl) hT hN h0 h1 hf hw hw2 hk 6 0 (Int.le_refl 0) rfl
    rw [fl6_0] at hL
    (repeat' (refine And.intro ?_ ?_)) <;> intros <;> (repeat' (refine And.intro ?_ ?_)) <;> intros <;> (repeat' (refine And.intro ?_ ?_)) <;> intros <;> (repeat' (refine And.intro ?_ ?_)) <;> intros
    all_goals first | omega | exact hL
def F_sw (e i : Int) (σ : Hp) : Hp := F_snd e 0 (σ 97 (7 * (4 * e + i))) 0 (7 * (4 * e + i)) σ
set_option maxHeartbeats 4000000 in
theorem R_sw {e i m : Int} (hT : ST σ) (hN : SN σ m) (h0 : 0 ≤ e) (h1 : e < 4) (hi : 0 ≤ i) (hi2 : i < 4) (hk : Q none (mg g (F_sw e i σ))) : Runs G mm_X10_sendsWork [vR 89, vI e, vI i] (mg g σ) Q := by
  refine rn_X10_sendsWork ?_
  simp (disch := omega) only [mg_in, mg_wr, wr_a, hT, forall_eq, true_and, inI, Int.add_zero]
  (repeat' (refine And.intro ?_ ?_)) <;> intros <;> (repeat' (refine And.intro ?_ ?_)) <;> intros <;> (repeat' (refine And.intro ?_ ?_)) <;> intros <;> (repeat' (refine And.intro ?_ ?_)) <;> intros
  all_goals first
    | omega
    | (refine R_snd hT hN h0 h1 (Or.inr (by omega)) (by omega) ?_
       exact sg_X10_sendsWork_25 hk)
def F_sws : Nat → Int → Int → Hp → Hp
  | 0, _, _, σ => σ
  | n + 1, e, i, σ => F_sws n e (i + 1) (F_sw e i σ)
def F_agn (e : Int) (σ : Hp) : Hp := if σ 101 e + 1 = 4 then F_brk e (F_old e 3 0 (wr σ 101 e (σ 101 e + 1))) else F_sws (σ 96 e).toNat e 0 (wr σ 101 e (σ 101 e + 1))
set_option maxHeartbeats 4000000 in
theorem L_sws {e : Int} (h0 : 0 ≤ e) (h1 : e < 4) : ∀ (n : Nat) (i m : Int) (σ : Hp), ST σ → SN σ m → m + n ≤ 200000 → 0 ≤ i → i + n = σ 96 e → σ 96 e ≤ 4 → Q none (mg g (F_sws n e i σ)) → AW G mm_X10_again b 35 [(0, vR 89), (1, vI e), (2, vI i)] [] (mg g σ) Q := by
  intro n
  induction n with
  | zero =>
    intro i m σ hT hN hm hi hn h4 hk
    have hk : Q none (mg g σ) := hk
    refine sg_X10_again_35 ?_
    simp (disch := omega) only [mg_in, mg_wr, wr_a, hT, forall_eq, true_and, inI, Int.add_zero]
    (repeat' (refine And.intro ?_ ?_)) <;> intros <;> (repeat' (refine And.intro ?_ ?_)) <;> intros <;> (repeat' (refine And.intro ?_ ?_)) <;> intros <;> (repeat' (refine And.intro ?_ ?_)) <;> intros
    all_goals first | omega | exact hk
  | succ n ih =>
    intro i m σ hT hN hm hi hn h4 hk
    obtain ⟨s1, s2, s3, s4, s5, s6, s7⟩ := id hN
    refine sg_X10_again_35 ?_
    simp (disch := omega) only [mg_in, mg_wr, wr_a, hT, forall_eq, true_and, inI, Int.add_zero]
    (repeat' (refine And.intro ?_ ?_)) <;> intros <;> (repeat' (refine And.intro ?_ ?_)) <;> intros <;> (repeat' (refine And.intro ?_ ?_)) <;> intros <;> (repeat' (refine And.intro ?_ ?_)) <;> intros
    all_goals first
      | omega
      | (refine R_sw hT hN h0 h1 hi (by omega) ?_
         refine sg_X10_again_51 ⟨⟨by omega, by omega⟩, ?_⟩
         refine ih (i + 1) (m + 1) _ (st_snd hT s1.1) (sn_snd hN (by omega)) (by omega) (by omega) ?_ ?_ hk
         · unfold F_sw; rw [snd_off (by decide) (by decide)]; omega
         · unfold F_sw; rw [snd_off (by decide) (by decide)]; omega)
set_option maxHeartbeats 4000000 in
theorem R_agn {e m : Int} (hT : ST σ) (hN : SN σ m) (hm : m ≤ 199000) (h0 : 0 ≤ e) (h1 : e < 4) (ho : 1 ≤ σ 96 e) (ho2 : σ 96 e ≤ 4) (hr : 0 ≤ σ 99 e) (hr2 : σ 99 e ≤ 3) (hy : 0 ≤ σ 101 e) (hy2 : σ 101 e ≤ 3) (ht : 0 ≤ σ 112 (e % 2)) (ht2 : σ 112 (e % 2) + σ 96 e + σ 99 e ≤ 600) (hk : Q none (mg g (F_agn e σ))) : Runs G mm_X10_again [vR 89, vI e] (mg g σ) Q := by
  have hW : ST (wr σ 101 e (σ 101 e + 1)) := st_wr hT (by decide) (by decide) h0
  have w96 : wr σ 101 e (σ 101 e + 1) 96 e = σ 96 e := wr_a (by decide)
  have w99 : wr σ 101 e (σ 101 e + 1) 99 e = σ 99 e := wr_a (by decide)
  have w12 : wr σ 101 e (σ 101 e + 1) 112 (e % 2) = σ 112 (e % 2) := wr_a (by decide)
  have hN2 : SN (wr σ 101 e (σ 101 e + 1)) m := by
    unfold SN
    rw [wr_a (by decide), wr_a (by decide), wr_a (by decide), wr_a (by decide), wr_a (by decide), wr_a (by decide)]
    exact hN
  unfold F_agn at hk
  refine rn_X10_again ?_
  simp (disch := omega) only [mg_in, mg_wr, wr_a, hT, forall_eq, true_and, inI, Int.add_zero]
  by_cases hf : σ 101 e + 1 = 4
  · rw [if_pos hf] at hk
    (repeat' (refine And.intro ?_ ?_)) <;> intros <;> (repeat' (refine And.intro ?_ ?_)) <;> intros <;> (repeat' (refine And.intro ?_ ?_)) <;> intros <;> (repeat' (refine And.intro ?_ ?_)) <;> intros
    all_goals first
      | omega
      | (refine R_old hW h0 h1 (by rw [w12]; exact ht) (by rw [w12]; omega) (by rw [w96]; exact ho) (by rw [w96]; exact ho2) ?_
         have hO := st_old (e := e) (r := 3) (v := 0) hW h0 (by rw [w12]; exact ht)
         have o96 : F_old e 3 0 (wr σ 101 e (σ 101 e + 1)) 96 e = σ 96 e - 1 := by rw [old_96, w96]
         have o99 : F_old e 3 0 (wr σ 101 e (σ 101 e + 1)) 99 e = σ 99 e := by rw [old_off (by decide) (by decide) (by decide) (by decide) (by decide) (by decide), w99]
         have o12 : F_old e 3 0 (wr σ 101 e (σ 101 e + 1)) 112 (e % 2) = σ 112 (e % 2) + 1 := by rw [old_112, w12]
         refine sg_X10_again_27 ⟨?_, ?_⟩
         · rw [mg_in (by decide) (by decide)]; exact hO.1
         · refine R_brk hO h0 h1 (by rw [o96]; omega) (by rw [o96]; omega) (by rw [o99]; omega) (by rw [o99]; omega) (by rw [o12]; omega) (by rw [o96, o99, o12]; omega) ?_
           exact sg_X10_again_32 hk)
  · rw [if_neg hf] at hk
    have hL := L_sws (G := G) (b := (0, 0)) (Q := Q) (g := g) h0 h1 (σ 96 e).toNat 0 m (wr σ 101 e (σ 101 e + 1)) hW hN2 (by omega) (Int.le_refl 0) (by rw [w96]; omega) (by rw [w96]; omega) hk
    (repeat' (refine And.intro ?_ ?_)) <;> intros <;> (repeat' (refine And.intro ?_ ?_)) <;> intros <;> (repeat' (refine And.intro ?_ ?_)) <;> intros <;> (repeat' (refine And.intro ?_ ?_)) <;> intros
    all_goals first | omega | exact hL
end R4
