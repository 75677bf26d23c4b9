/-! the reference: a request taken in -/
theorem SN_c {σ τ : Hp} {m : Int} (h1 : τ 89 = σ 89) (h2 : τ 108 = σ 108) (k : SN σ m) : SN τ m := by
  unfold SN
  rw [h1, h2]
  exact k
def F_pas (e r v : Int) (σ : Hp) : Hp := F_snd e 1 r v (-1) (wr (wr σ 98 e (r + 1)) 103 e 0)
def rsn (κ off k : Int) (σ : Hp) : Int := if σ 92 κ = 0 then 1 else if ¬ off < σ 92 κ then 2 else if iAnd (σ 93 κ) (if k = 1 then 2 else if k = 2 then 1 else 4) = 0 then 3 else 0
theorem rsn_in {κ off k : Int} {σ : Hp} : 0 ≤ rsn κ off k σ ∧ rsn κ off k σ ≤ 3 := by
  unfold rsn
  (repeat' split) <;> omega
theorem rsn_ok {κ off k : Int} {σ : Hp} (hI : Ik σ) (h0 : 0 ≤ κ) (h1 : κ < 8) (o0 : 0 ≤ off) (hr : rsn κ off k σ ≤ 0) : 0 ≤ σ 91 κ ∧ σ 91 κ + off < 12 := by
  have hk := hI κ h0 h1
  unfold rsn at hr
  by_cases c1 : σ 92 κ = 0
  · rw [if_pos c1] at hr; omega
  · rw [if_neg c1] at hr
    have := hk.2 c1
    by_cases c2 : off < σ 92 κ
    · omega
    · rw [if_pos c2] at hr; omega
def F_chm (e r v : Int) (σ : Hp) : Hp := if σ 104 e = 2 then wr (wr (wr (wr (wr (wr (wr σ 89 28 (σ 89 28 + 1)) 105 (4 * e) (σ 105 (4 * e + 2))) 105 (4 * e + 1) (σ 105 (4 * e + 3))) 104 e 1) 105 (4 * e + 2 * 1) r) 105 (4 * e + 2 * 1 + 1) v) 104 e (1 + 1) else wr (wr (wr (wr σ 89 28 (σ 89 28 + 1)) 105 (4 * e + 2 * σ 104 e) r) 105 (4 * e + 2 * σ 104 e + 1) v) 104 e (σ 104 e + 1)
theorem chm_off {e r v a : Int} {σ : Hp} (h1 : a ≠ 89) (h2 : a ≠ 104) (h3 : a ≠ 105) : F_chm e r v σ a = σ a := by
  unfold F_chm
  split
  · rw [wr_off h2, wr_off h3, wr_off h3, wr_off h2, wr_off h3, wr_off h3, wr_off h1]
  · rw [wr_off h2, wr_off h3, wr_off h3, wr_off h1]
theorem chm_89 {e r v k : Int} {σ : Hp} : F_chm e r v σ 89 k = if k = 28 then σ 89 28 + 1 else σ 89 k := by
  unfold F_chm
  split
  · rw [wr_a (by decide), wr_a (by decide), wr_a (by decide), wr_a (by decide), wr_a (by decide), wr_a (by decide), wr_v]
  · rw [wr_a (by decide), wr_a (by decide), wr_a (by decide), wr_v]
theorem st_chm {e r v : Int} {σ : Hp} (hT : ST σ) (h0 : 0 ≤ e) (hc : 0 ≤ σ 104 e) : ST (F_chm e r v σ) := by
  unfold F_chm
  split
  · exact st_wr (st_wr (st_wr (st_wr (st_wr (st_wr (st_wrS hT (by decide)) (by decide) (by decide) (by omega)) (by decide) (by decide) (by omega)) (by decide) (by decide) h0) (by decide) (by decide) (by omega)) (by decide) (by decide) (by omega)) (by decide) (by decide) h0
  · exact st_wr (st_wr (st_wr (st_wrS hT (by decide)) (by decide) (by decide) (by omega)) (by decide) (by decide) (by omega)) (by decide) (by decide) h0
theorem sn_chm {e r v m : Int} {σ : Hp} (h : SN σ m) : SN (F_chm e r v σ) m := by
  unfold SN
  rw [chm_off (a := 108) (by decide) (by decide) (by decide), chm_89, chm_89, chm_89, chm_89, if_neg (by decide), if_neg (by decide), if_neg (by decide), if_neg (by decide)]
  exact h
def F_rc2 (e : Int) (σ : Hp) : Hp := cpx (wr (wr σ 90 (12 * (e % 2) + σ 100 (3 * e)) (σ 117 6)) 99 e (σ 99 e - 1)) 100 (3 * e) 100 (3 * e + 1) (σ 99 e - 1)
def F_rec (e r : Int) (σ : Hp) : Hp := if σ 99 e = 0 then F_snd e 3 r 0 (-1) σ else F_pas e r 0 (F_tells e 5 r 0 (σ 117 6) (F_rc2 e σ))
def F_tag : Nat → Int → Int → Int → Hp → Hp
  | 0, _, _, _, σ => σ
  | n + 1, e, r, i, σ => F_tag n e r (i + 1) (if σ 105 (4 * e + 2 * i) = r then F_snd e 1 r (σ 105 (4 * e + 2 * i + 1)) (-1) σ else σ)
def F_a3 (e r k v : Int) (σ : Hp) : Hp := if σ 98 e ≤ r then F_pas e r (if k = 1 then 0 else v) σ else F_snd e 1 r v (-1) σ
def F_a2 (e r k v : Int) (σ : Hp) : Hp := F_a3 e r k v (if k ≤ 2 then σ else F_chm e r v σ)
def kk (e : Int) (σ : Hp) : Int := 4 * (e % 2) + σ 117 4
def ka (e : Int) (σ : Hp) : Int := 12 * (e % 2) + σ 91 (kk e σ) + σ 117 5
def F_a1 (e k : Int) (σ : Hp) : Hp := if k = 1 then wr σ 90 (ka e σ) (σ 117 6) else if k = 3 then wr σ 90 (ka e σ) ((σ 90 (ka e σ) + σ 117 6) % 10000) else if k = 4 ∧ σ 90 (ka e σ) = σ 117 6 then wr σ 90 (ka e σ) (σ 117 7) else σ
def F_acc (e r k : Int) (σ : Hp) : Hp := if rsn (kk e σ) (σ 117 5) k σ ≤ 0 then F_a2 e r k (σ 90 (ka e σ)) (F_a1 e k σ) else F_brk e (F_snd e 4 r (rsn (kk e σ) (σ 117 5) k σ) (-1) σ)
def F_req (e r k : Int) (σ : Hp) : Hp := if ¬ r ≤ σ 98 e then (if σ 103 e = 0 then wr (F_snd e 2 (σ 98 e) 0 (-1) σ) 103 e 1 else σ) else if k = 2 ∨ (r = σ 98 e ∧ ¬ k = 0) then F_acc e r k σ else if r = σ 98 e then F_rec e r σ else if 2 ≤ k then F_tag (σ 104 e).toNat e r 0 σ else F_snd e 1 r 0 (-1) σ
/-- what came -/
def Co (σ : Hp) : Prop := (0 ≤ σ 117 4 ∧ σ 117 4 ≤ 3) ∧ (0 ≤ σ 117 5 ∧ σ 117 5 ≤ 11) ∧ (0 ≤ σ 117 6 ∧ σ 117 6 ≤ 9999) ∧ (0 ≤ σ 117 7 ∧ σ 117 7 ≤ 9999)
section R5
variable {G : GG} {b : Nat × Nat} {Q : Option VV → Hp → Prop} {g σ : Hp}
set_option maxHeartbeats 4000000 in
theorem R_pas {e r v m : Int} (hT : ST σ) (hN : SN σ m) (h0 : 0 ≤ e) (h1 : e < 4) (r0 : 0 ≤ r) (r1 : r ≤ 1000) (hk : Q none (mg g (F_pas e r v σ))) : Runs G mm_X10_passes [vR 89, vI e, vI r, vI v] (mg g σ) Q := by
  refine rn_X10_passes ?_
  simp (disch := omega) only [mg_in, mg_wr, wr_a, hT, forall_eq, true_and, inI, Int.add_zero]
  (repeat' (refine And.intro ?_ ?_)) <;> intros <;> (repeat' (refine And.intro ?_ ?_)) <;> intros <;> (repeat' (refine And.intro ?_ ?_)) <;> intros <;> (repeat' (refine And.intro ?_ ?_)) <;> intros
  all_goals first
    | omega
    | (refine R_snd (st_wr (st_wr hT (by decide) (by decide) h0) (by decide) (by decide) h0) (SN_c (by rw [wr_off (by decide), wr_off (by decide)]) (by rw [wr_off (by decide), wr_off (by decide)]) hN) h0 h1 (Or.inl (by decide)) (by decide) ?_
       exact sg_X10_passes_25 hk)
set_option maxHeartbeats 4000000 in
theorem R_rsn {κ off k : Int} (hT : ST σ) (h0 : 0 ≤ κ) (h1 : κ < 8) (hk : Q (some (vI (rsn κ off k σ))) (mg g σ)) : Runs G mm_X10_reasonOf [vR 89, vI κ, vI off, vI k] (mg g σ) Q := by
  unfold rsn at hk
  refine rn_X10_reasonOf ?_
  simp (disch := omega) only [mg_in, mg_wr, wr_a, hT, forall_eq, true_and, inI, Int.add_zero]
  (repeat' (refine And.intro ?_ ?_)) <;> intros <;> (repeat' (refine And.intro ?_ ?_)) <;> intros <;> (repeat' (refine And.intro ?_ ?_)) <;> intros <;> (repeat' (refine And.intro ?_ ?_)) <;> intros
  all_goals first
    | omega
    | ((repeat' split at hk) <;> first | exact hk | omega)
    | ((repeat' split at hk) <;> first | exact hk | omega | contradiction | simp_all)
set_option maxHeartbeats 4000000 in
theorem R_chm {e r v : Int} (hT : ST σ) (h0 : 0 ≤ e) (h1 : e < 4) (d0 : 0 ≤ σ 89 28) (d1 : σ 89 28 ≤ 1000) (c0 : 0 ≤ σ 104 e) (c1 : σ 104 e ≤ 2) (hk : Q none (mg g (F_chm e r v σ))) : Runs G mm_X10_changesMore [vR 89, vI e, vI r, vI v] (mg g σ) Q := by
  unfold F_chm at hk
  refine rn_X10_changesMore ?_
  simp (disch := omega) only [mg_in, mg_wr, wr_a, wr_e, wr_k, hT, forall_eq, true_and, inI, Int.add_zero]
  (repeat' (refine And.intro ?_ ?_)) <;> intros <;> (repeat' (refine And.intro ?_ ?_)) <;> intros <;> (repeat' (refine And.intro ?_ ?_)) <;> intros <;> (repeat' (refine And.intro ?_ ?_)) <;> intros
  all_goals first
    | omega
    | (rw [if_pos (by assumption)] at hk; exact hk)
    | (rw [if_neg (by assumption)] at hk; exact hk)
set_option maxHeartbeats 4000000 in
theorem L_tag {e r : Int} (h0 : 0 ≤ e) (h1 : e < 4) : ∀ (n : Nat) (i m : Int) (σ : Hp), ST σ → SN σ m → m + n ≤ 199999 → 0 ≤ i → i + n = σ 104 e → σ 104 e ≤ 2 → Q none (mg g (F_tag n e r i σ)) → AW G mm_X10_tellsAgain b 2 [(0, vR 89), (1, vI e), (2, vI r), (3, vI i)] [] (mg g σ) Q := by
  intro n
  induction n with
  | zero =>
    intro i m σ hT hN hm hi hn h2 hk
    have hk : Q none (mg g σ) := hk
    refine sg_X10_tellsAgain_2 ?_
    simp (disch := omega) only [mg_in, mg_wr, wr_a, hT, forall_eq, true_and, inI, Int.add_zero]
    (repeat' (refine And.intro ?_ ?_)) <;> intros <;> (repeat' (refine And.intro ?_ ?_)) <;> intros <;> (repeat' (refine And.intro ?_ ?_)) <;> intros <;> (repeat' (refine And.intro ?_ ?_)) <;> intros
    all_goals first | omega | exact hk
  | succ n ih =>
    intro i m σ hT hN hm hi hn h2 hk
    have hk : Q none (mg g (F_tag n e r (i + 1) (if σ 105 (4 * e + 2 * i) = r then F_snd e 1 r (σ 105 (4 * e + 2 * i + 1)) (-1) σ else σ))) := hk
    refine sg_X10_tellsAgain_2 ?_
    simp (disch := omega) only [mg_in, mg_wr, wr_a, hT, forall_eq, true_and, inI, Int.add_zero]
    by_cases hc : σ 105 (4 * e + 2 * i) = r
    · rw [if_pos hc] at hk
      (repeat' (refine And.intro ?_ ?_)) <;> intros <;> (repeat' (refine And.intro ?_ ?_)) <;> intros <;> (repeat' (refine And.intro ?_ ?_)) <;> intros <;> (repeat' (refine And.intro ?_ ?_)) <;> intros
      all_goals first
        | omega
        | contradiction
        | (refine R_snd hT hN h0 h1 (Or.inl (by decide)) (by decide) ?_
           have hT2 := st_snd (e := e) (ty := 1) (nb := r) (vl := σ 105 (4 * e + 2 * i + 1)) (w := -1) hT hN.1.1
           refine sg_X10_tellsAgain_50 ⟨⟨by omega, by omega⟩, ?_⟩
           refine ih (i + 1) (m + 1) _ hT2 (sn_snd hN (by omega)) (by omega) (by omega) ?_ ?_ hk
           · rw [snd_off (by decide) (by decide)]; omega
           · rw [snd_off (by decide) (by decide)]; omega)
    · rw [if_neg hc] at hk
      (repeat' (refine And.intro ?_ ?_)) <;> intros <;> (repeat' (refine And.intro ?_ ?_)) <;> intros <;> (repeat' (refine And.intro ?_ ?_)) <;> intros <;> (repeat' (refine And.intro ?_ ?_)) <;> intros
      all_goals first
        | omega
        | contradiction
        | exact ih (i + 1) m _ hT hN (by omega) (by omega) (by omega) (by omega) hk
theorem R_tag {e r m : Int} (hT : ST σ) (hN : SN σ m) (hm : m ≤ 190000) (h0 : 0 ≤ e) (h1 : e < 4) (c0 : 0 ≤ σ 104 e) (c1 : σ 104 e ≤ 2) (hk : Q none (mg g (F_tag (σ 104 e).toNat e r 0 σ))) : Runs G mm_X10_tellsAgain [vR 89, vI e, vI r] (mg g σ) Q :=
  rn_X10_tellsAgain (L_tag h0 h1 _ 0 m σ hT hN (by omega) (Int.le_refl 0) (by omega) c1 hk)
set_option maxHeartbeats 4000000 in
theorem L_rec {e r v m : Int} {τ : Hp} (hS : ST τ) (hN : SN τ m) (h0 : 0 ≤ e) (h1 : e < 4) (r0 : 0 ≤ r) (r1 : r ≤ 1000) (ho : 0 ≤ τ 99 e) (ho2 : τ 99 e ≤ 2) (t0 : 0 ≤ τ 112 (e % 2)) (t1 : τ 112 (e % 2) < 600) (hk : Q none (mg g (F_pas e r 0 (F_tells e 5 r 0 v (cpx τ 100 (3 * e) 100 (3 * e + 1) (τ 99 e)))))) : ∀ (n : Nat) (i : Int), 0 ≤ i → i + n = τ 99 e → AW G mm_X10_receives b 61 [(0, vR 89), (1, vI e), (2, vI r), (3, vI v), (4, vI i)] [] (mg g (cpx τ 100 (3 * e) 100 (3 * e + 1) i)) Q := by
  intro n
  induction n with
  | zero =>
    intro i hi hn
    have hi2 : i = τ 99 e := by omega
    subst hi2
    have hT := st_cpx (a := 100) (dst := 3 * e) (b := 100) (src := 3 * e + 1) (n := τ 99 e) hS (by decide) (by decide) (by omega)
    have e99 : cpx τ 100 (3 * e) 100 (3 * e + 1) (τ 99 e) 99 e = τ 99 e := cpx_off (by decide)
    have e12 : cpx τ 100 (3 * e) 100 (3 * e + 1) (τ 99 e) 112 (e % 2) = τ 112 (e % 2) := cpx_off (by decide)
    refine sg_X10_receives_61 ?_
    simp (disch := omega) only [mg_in, mg_wr, wr_a, hT, forall_eq, true_and, inI, Int.add_zero]
    rw [e99]
    (repeat' (refine And.intro ?_ ?_)) <;> intros <;> (repeat' (refine And.intro ?_ ?_)) <;> intros <;> (repeat' (refine And.intro ?_ ?_)) <;> intros <;> (repeat' (refine And.intro ?_ ?_)) <;> intros
    all_goals first
      | omega
      | (refine R_tells hT h0 (by rw [e12]; exact t0) (by rw [e12]; exact t1) ?_
         refine sg_X10_receives_111 ⟨by rw [mg_in (by decide) (by decide)]; exact (st_tells hT (by rw [e12]; exact t0)).1, ?_⟩
         refine R_pas (st_tells hT (by rw [e12]; exact t0)) (SN_c ?_ ?_ hN) h0 h1 r0 r1 ?_
         · rw [tells_off (by decide) (by decide)]; funext j; exact cpx_off (by decide)
         · rw [tells_off (by decide) (by decide)]; funext j; exact cpx_off (by decide)
         · exact sg_X10_receives_118 hk)
  | succ n ih =>
    intro i hi hn
    have hT := st_cpx (a := 100) (dst := 3 * e) (b := 100) (src := 3 * e + 1) (n := i) hS (by decide) (by decide) (by omega)
    have e99 : cpx τ 100 (3 * e) 100 (3 * e + 1) i 99 e = τ 99 e := cpx_off (by decide)
    have ihk := ih (i + 1) (by omega) (by omega)
    rw [← cpx_s hi (Or.inr (Or.inl (by omega))), show 3 * e + 1 + i = 3 * e + i + 1 by omega] at ihk
    refine sg_X10_receives_61 ?_
    simp (disch := omega) only [mg_in, mg_wr, wr_a, hT, forall_eq, true_and, inI, Int.add_zero]
    rw [e99]
    (repeat' (refine And.intro ?_ ?_)) <;> intros <;> (repeat' (refine And.intro ?_ ?_)) <;> intros <;> (repeat' (refine And.intro ?_ ?_)) <;> intros <;> (repeat' (refine And.intro ?_ ?_)) <;> intros
    all_goals first | omega | exact ihk
set_option maxHeartbeats 4000000 in
theorem R_rec {e r n m : Int} (hI : IV σ n m) (hC : Co σ) (h0 : 0 ≤ e) (h1 : e < 4) (r0 : 0 ≤ r) (r1 : r ≤ 1000) (hk : Q none (mg g (F_rec e r σ))) : Runs G mm_X10_receives [vR 89, vI e, vI r] (mg g σ) Q := by
  have hT := hI.s
  have hN := hI.sn
  have hE := hI.e e h0 h1
  have hJ := hI.t (e % 2) (by omega) (by omega)
  have hB := hI.n
  obtain ⟨-, -, hc6, -⟩ := hC
  unfold F_rec at hk
  by_cases hz : σ 99 e = 0
  · rw [if_pos hz] at hk
    refine rn_X10_receives ?_
    simp (disch := omega) only [mg_in, mg_wr, wr_a, hT, forall_eq, true_and, inI, Int.add_zero]
    (repeat' (refine And.intro ?_ ?_)) <;> intros <;> (repeat' (refine And.intro ?_ ?_)) <;> intros <;> (repeat' (refine And.intro ?_ ?_)) <;> intros <;> (repeat' (refine And.intro ?_ ?_)) <;> intros
    all_goals first
      | omega
      | (refine R_snd hT hN h0 h1 (Or.inl (by decide)) (by decide) ?_
         exact sg_X10_receives_18 hk)
  · rw [if_neg hz] at hk
    have hp := hI.p e 0 h0 h1 (Int.le_refl 0) (by omega)
    rw [Int.add_zero] at hp
    have jj : 0 ≤ σ 96 (e % 2) ∧ 0 ≤ σ 96 (e % 2 + 2) ∧ 0 ≤ σ 99 (e % 2) ∧ 0 ≤ σ 99 (e % 2 + 2) := by
      have a1 := hI.e (e % 2) (by omega) (by omega)
      have a2 := hI.e (e % 2 + 2) (by omega) (by omega)
      omega
    have w99 : wr (wr σ 90 (12 * (e % 2) + σ 100 (3 * e)) (σ 117 6)) 99 e (σ 99 e - 1) 99 e = σ 99 e - 1 := wr_e
    have w12 : wr (wr σ 90 (12 * (e % 2) + σ 100 (3 * e)) (σ 117 6)) 99 e (σ 99 e - 1) 112 (e % 2) = σ 112 (e % 2) := by rw [wr_a (by decide), wr_a (by decide)]
    have hL := L_rec (G := G) (b := (0, 0)) (Q := Q) (g := g) (e := e) (r := r) (v := σ 117 6) (τ := wr (wr σ 90 (12 * (e % 2) + σ 100 (3 * e)) (σ 117 6)) 99 e (σ 99 e - 1)) (st_wr (st_wr hT (by decide) (by decide) (by omega)) (by decide) (by decide) h0) (SN_c (by rw [wr_off (by decide), wr_off (by decide)]) (by rw [wr_off (by decide), wr_off (by decide)]) hN) h0 h1 r0 r1 (by rw [w99]; omega) (by rw [w99]; omega) (by rw [w12]; omega) (by rw [w12]; omega) (by rw [w99]; exact hk) (σ 99 e - 1).toNat 0 (Int.le_refl 0) (by rw [w99]; omega)
    rw [cpx_0] at hL
    refine rn_X10_receives ?_
    simp (disch := omega) only [mg_in, mg_wr, wr_a, hT, forall_eq, true_and, inI, Int.add_zero]
    (repeat' (refine And.intro ?_ ?_)) <;> intros <;> (repeat' (refine And.intro ?_ ?_)) <;> intros <;> (repeat' (refine And.intro ?_ ?_)) <;> intros <;> (repeat' (refine And.intro ?_ ?_)) <;> intros
    all_goals first | omega | exact hL
set_option maxHeartbeats 4000000 in
theorem L_a3 {e r k v m : Int} (hT : ST σ) (hN : SN σ m) (h0 : 0 ≤ e) (h1 : e < 4) (r0 : 0 ≤ r) (r1 : r ≤ 1000) (hk : Q none (mg g (F_a3 e r k v σ))) : AW G mm_X10_accesses b 177 [(0, vR 89), (1, vI e), (2, vI r), (3, vI k), (7, vI v)] [] (mg g σ) Q := by
  unfold F_a3 at hk
  refine sg_X10_accesses_177 ?_
  simp (disch := omega) only [mg_in, mg_wr, wr_a, hT, forall_eq, true_and, inI, Int.add_zero]
  by_cases hr : σ 98 e ≤ r
  · rw [if_pos hr] at hk
    (repeat' (refine And.intro ?_ ?_)) <;> intros <;> (repeat' (refine And.intro ?_ ?_)) <;> intros <;> (repeat' (refine And.intro ?_ ?_)) <;> intros <;> (repeat' (refine And.intro ?_ ?_)) <;> intros
    all_goals first
      | omega
      | (rw [if_pos (by assumption)] at hk
         refine R_pas hT hN h0 h1 r0 r1 ?_
         exact sg_X10_accesses_217 hk)
      | (rw [if_neg (by assumption)] at hk
         refine R_pas hT hN h0 h1 r0 r1 ?_
         exact sg_X10_accesses_217 hk)
  · rw [if_neg hr] at hk
    (repeat' (refine And.intro ?_ ?_)) <;> intros <;> (repeat' (refine And.intro ?_ ?_)) <;> intros <;> (repeat' (refine And.intro ?_ ?_)) <;> intros <;> (repeat' (refine And.intro ?_ ?_)) <;> intros
    all_goals first
      | omega
      | (refine R_snd hT hN h0 h1 (Or.inl (by decide)) (by decide) ?_
         exact sg_X10_accesses_197 hk)
set_option maxHeartbeats 4000000 in
theorem L_a2 {e r k v m : Int} (hT : ST σ) (hN : SN σ m) (h0 : 0 ≤ e) (h1 : e < 4) (r0 : 0 ≤ r) (r1 : r ≤ 1000) (d0 : 0 ≤ σ 89 28) (d1 : σ 89 28 ≤ 1000) (c0 : 0 ≤ σ 104 e) (c1 : σ 104 e ≤ 2) (hk : Q none (mg g (F_a2 e r k v σ))) : AW G mm_X10_accesses b 164 [(0, vR 89), (1, vI e), (2, vI r), (3, vI k), (7, vI v)] [] (mg g σ) Q := by
  unfold F_a2 at hk
  refine sg_X10_accesses_164 ?_
  simp (disch := omega) only [mg_in, mg_wr, wr_a, hT, forall_eq, true_and, inI, Int.add_zero]
  by_cases hr : k ≤ 2
  · rw [if_pos hr] at hk
    have hL := L_a3 (G := G) (b := b) (Q := Q) (g := g) hT hN h0 h1 r0 r1 hk
    (repeat' (refine And.intro ?_ ?_)) <;> intros <;> (repeat' (refine And.intro ?_ ?_)) <;> intros <;> (repeat' (refine And.intro ?_ ?_)) <;> intros <;> (repeat' (refine And.intro ?_ ?_)) <;> intros
    all_goals first
      | omega
      | exact hL
  · rw [if_neg hr] at hk
    have hL := L_a3 (G := G) (b := b) (Q := Q) (g := g) (st_chm hT h0 c0) (sn_chm hN) h0 h1 r0 r1 hk
    (repeat' (refine And.intro ?_ ?_)) <;> intros <;> (repeat' (refine And.intro ?_ ?_)) <;> intros <;> (repeat' (refine And.intro ?_ ?_)) <;> intros <;> (repeat' (refine And.intro ?_ ?_)) <;> intros
    all_goals first
      | omega
      | exact R_chm hT h0 h1 d0 d1 c0 c1 hL
set_option maxHeartbeats 4000000 in
theorem L_a1 {e r k n m : Int} (hI : IV σ n m) (hC : Co σ) (h0 : 0 ≤ e) (h1 : e < 4) (r0 : 0 ≤ r) (r1 : r ≤ 1000) (hy : rsn (kk e σ) (σ 117 5) k σ ≤ 0) (hk : Q none (mg g (F_a2 e r k (σ 90 (ka e σ)) (F_a1 e k σ)))) : AW G mm_X10_accesses b 27 [(0, vR 89), (1, vI e), (2, vI r), (3, vI k), (4, vI (kk e σ))] [vI (rsn (kk e σ) (σ 117 5) k σ)] (mg g σ) Q := by
  have hT := hI.s
  have hN := hI.sn
  have hE := hI.e e h0 h1
  have hB := hI.n
  have hD := hI.q.2.2.2.1
  obtain ⟨hc4, hc5, hc6, hc7⟩ := hC
  have hok := rsn_ok hI.k (κ := kk e σ) (by unfold kk; omega) (by unfold kk; omega) hc5.1 hy
  have hca := hI.c (ka e σ) (by unfold ka; omega) (by unfold ka; omega)
  have kb : 0 ≤ kk e σ ∧ kk e σ < 8 := by unfold kk; omega
  have hka : ∀ (τ : Hp), τ = σ ∨ (∃ v, τ = wr σ 90 (ka e σ) v) → Q none (mg g (F_a2 e r k (σ 90 (ka e σ)) τ)) → AW G mm_X10_accesses b 164 [(0, vR 89), (1, vI e), (2, vI r), (3, vI k), (7, vI (σ 90 (ka e σ)))] [] (mg g τ) Q := by
    rintro τ (rfl | ⟨v, rfl⟩) hq
    · exact L_a2 hT hN h0 h1 r0 r1 (by omega) (by omega) (by omega) (by omega) hq
    · exact L_a2 (st_wr hT (by decide) (by decide) (by unfold ka; omega)) (SN_c (wr_off (by decide)) (wr_off (by decide)) hN) h0 h1 r0 r1 (by rw [wr_a (by decide)]; omega) (by rw [wr_a (by decide)]; omega) (by rw [wr_a (by decide)]; omega) (by rw [wr_a (by decide)]; omega) hq
  unfold F_a1 at hk
  refine sg_X10_accesses_27 ?_
  simp (disch := omega) only [mg_in, mg_wr, wr_a, hT, forall_eq, true_and, inI, Int.add_zero]
  rw [show 12 * (e % 2) + σ 91 (kk e σ) + σ 117 5 = ka e σ from rfl]
  have ab : 0 ≤ ka e σ ∧ ka e σ < 24 := by unfold ka; omega
  (repeat' (refine And.intro ?_ ?_)) <;> intros <;> (repeat' (refine And.intro ?_ ?_)) <;> intros <;> (repeat' (refine And.intro ?_ ?_)) <;> intros <;> (repeat' (refine And.intro ?_ ?_)) <;> intros <;> (repeat' (refine And.intro ?_ ?_)) <;> intros <;> (repeat' (refine And.intro ?_ ?_)) <;> intros <;> (repeat' (refine And.intro ?_ ?_)) <;> intros <;> (repeat' (refine And.intro ?_ ?_)) <;> intros
  all_goals first
    | omega
    | (refine hka _ (Or.inl rfl) ?_
       (repeat' split at hk) <;> first | exact hk | omega)
    | (refine hka _ (Or.inr ⟨_, rfl⟩) ?_
       (repeat' split at hk) <;> first | exact hk | omega)
set_option maxHeartbeats 4000000 in
theorem R_acc {e r k n m : Int} (hI : IV σ n m) (hm : m ≤ 99990) (hC : Co σ) (h0 : 0 ≤ e) (h1 : e < 4) (r0 : 0 ≤ r) (r1 : r ≤ 1000) (hk : Q none (mg g (F_acc e r k σ))) : Runs G mm_X10_accesses [vR 89, vI e, vI r, vI k] (mg g σ) Q := by
  have hT := hI.s
  have hN := hI.sn
  have hE := hI.e e h0 h1
  have hB := hI.n
  have hJ := hI.t (e % 2) (by omega) (by omega)
  have jj : 0 ≤ σ 96 (e % 2) ∧ 0 ≤ σ 96 (e % 2 + 2) ∧ 0 ≤ σ 99 (e % 2) ∧ 0 ≤ σ 99 (e % 2 + 2) := by
    have a1 := hI.e (e % 2) (by omega) (by omega)
    have a2 := hI.e (e % 2 + 2) (by omega) (by omega)
    omega
  have j2 : σ 112 (e % 2) + σ 96 e + σ 99 e ≤ 600 := by
    have c96 : σ 96 e = σ 96 (e % 2) ∨ σ 96 e = σ 96 (e % 2 + 2) := (show e = e % 2 ∨ e = e % 2 + 2 by omega).imp (congrArg _) (congrArg _)
    have c99 : σ 99 e = σ 99 (e % 2) ∨ σ 99 e = σ 99 (e % 2 + 2) := (show e = e % 2 ∨ e = e % 2 + 2 by omega).imp (congrArg _) (congrArg _)
    omega
  have hC2 := hC
  obtain ⟨hc4, hc5, hc6, hc7⟩ := hC2
  have kb : 0 ≤ kk e σ ∧ kk e σ < 8 := by unfold kk; omega
  unfold F_acc at hk
  refine rn_X10_accesses ?_
  simp (disch := omega) only [mg_in, mg_wr, wr_a, hT, forall_eq, true_and, inI, Int.add_zero]
  rw [show 4 * (e % 2) + σ 117 4 = kk e σ from rfl]
  have hR : Runs G mm_X10_reasonOf [vR 89, vI (kk e σ), vI (σ 117 5), vI k] (mg g σ) (fun r' h' => AW G mm_X10_accesses (0, 0) 27 [(0, vR 89), (1, vI e), (2, vI r), (3, vI k), (4, vI (kk e σ))] (r'.toList ++ []) h' Q) := by
    refine R_rsn hT kb.1 kb.2 ?_
    show AW G mm_X10_accesses (0, 0) 27 [(0, vR 89), (1, vI e), (2, vI r), (3, vI k), (4, vI (kk e σ))] [vI (rsn (kk e σ) (σ 117 5) k σ)] (mg g σ) Q
    by_cases hy : rsn (kk e σ) (σ 117 5) k σ ≤ 0
    · rw [if_pos hy] at hk
      exact L_a1 hI hC h0 h1 r0 r1 hy hk
    · rw [if_neg hy] at hk
      refine sg_X10_accesses_27 ?_
      simp (disch := omega) only [mg_in, mg_wr, wr_a, hT, forall_eq, true_and, inI, Int.add_zero]
      (repeat' (refine And.intro ?_ ?_)) <;> intros <;> (repeat' (refine And.intro ?_ ?_)) <;> intros <;> (repeat' (refine And.intro ?_ ?_)) <;> intros <;> (repeat' (refine And.intro ?_ ?_)) <;> intros
      all_goals first
        | omega
        | (refine R_snd hT hN h0 h1 (Or.inl (by decide)) (by decide) ?_
           have hT2 := st_snd (e := e) (ty := 4) (nb := r) (vl := rsn (kk e σ) (σ 117 5) k σ) (w := -1) hT hN.1.1
           have o96 : F_snd e 4 r (rsn (kk e σ) (σ 117 5) k σ) (-1) σ 96 e = σ 96 e := by rw [snd_off (by decide) (by decide)]
           have o99 : F_snd e 4 r (rsn (kk e σ) (σ 117 5) k σ) (-1) σ 99 e = σ 99 e := by rw [snd_off (by decide) (by decide)]
           have o12 : F_snd e 4 r (rsn (kk e σ) (σ 117 5) k σ) (-1) σ 112 (e % 2) = σ 112 (e % 2) := by rw [snd_off (by decide) (by decide)]
           refine sg_X10_accesses_44 ⟨by rw [mg_in (by decide) (by decide)]; exact hT2.1, ?_⟩
           refine R_brk hT2 h0 h1 (by rw [o96]; omega) (by rw [o96]; omega) (by rw [o99]; omega) (by rw [o99]; omega) (by rw [o12]; omega) (by rw [o12, o96, o99]; omega) ?_
           exact sg_X10_accesses_49 hk)
  (repeat' (refine And.intro ?_ ?_)) <;> intros <;> (repeat' (refine And.intro ?_ ?_)) <;> intros <;> (repeat' (refine And.intro ?_ ?_)) <;> intros <;> (repeat' (refine And.intro ?_ ?_)) <;> intros
  all_goals first | omega | exact hR
set_option maxHeartbeats 4000000 in
theorem R_req {e r k n m : Int} (hI : IV σ n m) (hm : m ≤ 99990) (hC : Co σ) (h0 : 0 ≤ e) (h1 : e < 4) (r0 : 0 ≤ r) (r1 : r ≤ 1000) (hk : Q none (mg g (F_req e r k σ))) : Runs G mm_X10_requested [vR 89, vI e, vI r, vI k] (mg g σ) Q := by
  have hT := hI.s
  have hN := hI.sn
  have hE := hI.e e h0 h1
  unfold F_req at hk
  refine rn_X10_requested ?_
  simp (disch := omega) only [mg_in, mg_wr, wr_a, hT, forall_eq, true_and, inI, Int.add_zero]
  by_cases q1 : r ≤ σ 98 e
  · rw [if_neg (not_not_intro q1)] at hk
    by_cases q2 : k = 2 ∨ (r = σ 98 e ∧ ¬ k = 0)
    · rw [if_pos q2] at hk
      have hR : Runs G mm_X10_accesses [vR 89, vI e, vI r, vI k] (mg g σ) (fun r' h' => AW G mm_X10_requested (0, 0) 69 [] (r'.toList ++ []) h' Q) := R_acc hI hm hC h0 h1 r0 r1 (sg_X10_requested_69 hk)
      (repeat' (refine And.intro ?_ ?_)) <;> intros <;> (repeat' (refine And.intro ?_ ?_)) <;> intros <;> (repeat' (refine And.intro ?_ ?_)) <;> intros <;> (repeat' (refine And.intro ?_ ?_)) <;> intros <;> (repeat' (refine And.intro ?_ ?_)) <;> intros <;> (repeat' (refine And.intro ?_ ?_)) <;> intros <;> (repeat' (refine And.intro ?_ ?_)) <;> intros <;> (repeat' (refine And.intro ?_ ?_)) <;> intros
      all_goals first | omega | exact hR
    · rw [if_neg q2] at hk
      by_cases q3 : r = σ 98 e
      · rw [if_pos q3] at hk
        have hR : Runs G mm_X10_receives [vR 89, vI e, vI r] (mg g σ) (fun r' h' => AW G mm_X10_requested (0, 0) 88 [] (r'.toList ++ []) h' Q) := R_rec hI hC h0 h1 r0 r1 (sg_X10_requested_88 hk)
        (repeat' (refine And.intro ?_ ?_)) <;> intros <;> (repeat' (refine And.intro ?_ ?_)) <;> intros <;> (repeat' (refine And.intro ?_ ?_)) <;> intros <;> (repeat' (refine And.intro ?_ ?_)) <;> intros <;> (repeat' (refine And.intro ?_ ?_)) <;> intros <;> (repeat' (refine And.intro ?_ ?_)) <;> intros <;> (repeat' (refine And.intro ?_ ?_)) <;> intros <;> (repeat' (refine And.intro ?_ ?_)) <;> intros
        all_goals first | omega | exact hR
      · rw [if_neg q3] at hk
        by_cases q4 : 2 ≤ k
        · rw [if_pos q4] at hk
          have hR : Runs G mm_X10_tellsAgain [vR 89, vI e, vI r] (mg g σ) (fun r' h' => AW G mm_X10_requested (0, 0) 114 [] (r'.toList ++ []) h' Q) := R_tag hT hN (by omega) h0 h1 (by omega) (by omega) (sg_X10_requested_114 hk)
          (repeat' (refine And.intro ?_ ?_)) <;> intros <;> (repeat' (refine And.intro ?_ ?_)) <;> intros <;> (repeat' (refine And.intro ?_ ?_)) <;> intros <;> (repeat' (refine And.intro ?_ ?_)) <;> intros <;> (repeat' (refine And.intro ?_ ?_)) <;> intros <;> (repeat' (refine And.intro ?_ ?_)) <;> intros <;> (repeat' (refine And.intro ?_ ?_)) <;> intros <;> (repeat' (refine And.intro ?_ ?_)) <;> intros
          all_goals first | omega | exact hR
        · rw [if_neg q4] at hk
          have hR : Runs G mm_X10_sends [vR 89, vI e, vI 1, vI r, vI 0, vI (-1)] (mg g σ) (fun r' h' => AW G mm_X10_requested (0, 0) 105 [] (r'.toList ++ []) h' Q) := R_snd hT hN h0 h1 (Or.inl (by decide)) (by decide) (sg_X10_requested_105 hk)
          (repeat' (refine And.intro ?_ ?_)) <;> intros <;> (repeat' (refine And.intro ?_ ?_)) <;> intros <;> (repeat' (refine And.intro ?_ ?_)) <;> intros <;> (repeat' (refine And.intro ?_ ?_)) <;> intros <;> (repeat' (refine And.intro ?_ ?_)) <;> intros <;> (repeat' (refine And.intro ?_ ?_)) <;> intros <;> (repeat' (refine And.intro ?_ ?_)) <;> intros <;> (repeat' (refine And.intro ?_ ?_)) <;> intros
          all_goals first | omega | exact hR
  · rw [if_pos q1] at hk
    by_cases q5 : σ 103 e = 0
    · rw [if_pos q5] at hk
      have hR : Runs G mm_X10_sends [vR 89, vI e, vI 2, vI (σ 98 e), vI 0, vI (-1)] (mg g σ) (fun r' h' => AW G mm_X10_requested (0, 0) 33 [(0, vR 89), (1, vI e)] (r'.toList ++ []) h' Q) := by
        refine R_snd hT hN h0 h1 (Or.inl (by decide)) (by decide) ?_
        have hT := st_snd (e := e) (ty := 2) (nb := σ 98 e) (vl := 0) (w := -1) hT hN.1.1
        refine sg_X10_requested_33 ?_
        simp (disch := omega) only [mg_in, mg_wr, wr_a, hT, forall_eq, true_and, inI, Int.add_zero]
        (repeat' (refine And.intro ?_ ?_)) <;> intros <;> (repeat' (refine And.intro ?_ ?_)) <;> intros <;> (repeat' (refine And.intro ?_ ?_)) <;> intros <;> (repeat' (refine And.intro ?_ ?_)) <;> intros <;> (repeat' (refine And.intro ?_ ?_)) <;> intros <;> (repeat' (refine And.intro ?_ ?_)) <;> intros <;> (repeat' (refine And.intro ?_ ?_)) <;> intros <;> (repeat' (refine And.intro ?_ ?_)) <;> intros
        all_goals first | omega | exact hk
      (repeat' (refine And.intro ?_ ?_)) <;> intros <;> (repeat' (refine And.intro ?_ ?_)) <;> intros <;> (repeat' (refine And.intro ?_ ?_)) <;> intros <;> (repeat' (refine And.intro ?_ ?_)) <;> intros <;> (repeat' (refine And.intro ?_ ?_)) <;> intros <;> (repeat' (refine And.intro ?_ ?_)) <;> intros <;> (repeat' (refine And.intro ?_ ?_)) <;> intros <;> (repeat' (refine And.intro ?_ ?_)) <;> intros
      all_goals first | omega | exact hR
    · rw [if_neg q5] at hk
      (repeat' (refine And.intro ?_ ?_)) <;> intros <;> (repeat' (refine And.intro ?_ ?_)) <;> intros <;> (repeat' (refine And.intro ?_ ?_)) <;> intros <;> (repeat' (refine And.intro ?_ ?_)) <;> intros <;> (repeat' (refine And.intro ?_ ?_)) <;> intros <;> (repeat' (refine And.intro ?_ ?_)) <;> intros <;> (repeat' (refine And.intro ?_ ?_)) <;> intros <;> (repeat' (refine And.intro ?_ ?_)) <;> intros
      all_goals first | omega | exact hk
end R5
