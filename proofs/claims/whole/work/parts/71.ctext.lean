/-! the class: tokens and words -/
def TV (h g : Hp) : Prop := (∀ a, a ≠ 32 → a ≠ 34 → g a = h a) ∧ (∀ k, k < 3 → g 32 k = h 32 k) ∧ (∀ k, k < 0 → g 34 k = h 34 k)
def TW (h g : Hp) : Prop := TV h g ∧ (∀ k, 5 ≤ k → g 32 k = h 32 k) ∧ g 34 = h 34
theorem TV.refl {h : Hp} : TV h h := ⟨fun _ _ _ => rfl, fun _ _ => rfl, fun _ _ => rfl⟩
theorem TV.trans {h g f : Hp} (a : TV h g) (b : TV g f) : TV h f := ⟨fun x x1 x2 => (b.1 x x1 x2).trans (a.1 x x1 x2), fun k k1 => (b.2.1 k k1).trans (a.2.1 k k1), fun k k1 => (b.2.2 k k1).trans (a.2.2 k k1)⟩
theorem TW.refl {h : Hp} : TW h h := ⟨TV.refl, fun _ _ => rfl, rfl⟩
theorem TW.trans {h g f : Hp} (a : TW h g) (b : TW g f) : TW h f := ⟨a.1.trans b.1, fun k k1 => (b.2.1 k k1).trans (a.2.1 k k1), b.2.2.trans a.2.2⟩
theorem tv_32 {h : Hp} {k v : Int} (hk : 3 ≤ k) : TV h (wr h 32 k v) := ⟨fun a a1 _ => wr_off a1, fun j j1 => wr_k (by omega), fun j j1 => wr_a (by decide)⟩
theorem tv_34 {h : Hp} {k v : Int} (hk : 0 ≤ k) : TV h (wr h 34 k v) := ⟨fun a _ a2 => wr_off a2, fun j j1 => wr_a (by decide), fun j j1 => wr_k (by omega)⟩
theorem tw_32 {h : Hp} {k v : Int} (hk : k = 3 ∨ k = 4) : TW h (wr h 32 k v) := ⟨tv_32 (by omega), fun j j1 => wr_k (by omega), wr_off (by decide)⟩
/-- the class's text: L letters, t -/
def TC (t : Int → Int) (L : Int) (h : Hp) : Prop := CT h ∧ h 32 2 = L ∧ (0 ≤ L ∧ L ≤ 200) ∧ ∀ i, 0 ≤ i → i < L → h 33 i = t i ∧ 0 ≤ t i ∧ t i ≤ 255
theorem TV.ct {h g : Hp} (a : TV h g) (hT : CT h) : CT g := CT_of hT (fun b y b1 b2 hb => by
  by_cases e1 : b = 32
  · subst e1
    exact a.2.1 y (by unfold Fx at hb; omega)
  · by_cases e2 : b = 34
    · subst e2
      exact a.2.2 y (by unfold Fx at hb; omega)
    · rw [a.1 b e1 e2])
theorem TC.v {t : Int → Int} {L : Int} {h g : Hp} (hT : TC t L h) (a : TV h g) : TC t L g := by
  obtain ⟨t1, t2, t3, t4⟩ := hT
  refine ⟨a.ct t1, by rw [a.2.1 2 (by decide)]; exact t2, t3, ?_⟩
  rw [a.1 33 (by decide) (by decide)]
  exact t4
theorem rnk_00 {t : Int → Int} {L : Int} : ∀ (n : Nat) (p : Int), rnk t L 0 0 n p = p
  | 0, _ => rfl
  | n + 1, p => by
    unfold rnk
    rw [if_neg (by omega)]
theorem rnk_ch {t : Int → Int} {L s d : Int} : ∀ (n : Nat) (p q : Int), p ≤ q → q < rnk t L s d n p → 48 ≤ t q
  | 0, p, q, h1, h2 => by
    have h2 : q < p := h2
    omega
  | n + 1, p, q, h1, h2 => by
    unfold rnk at h2
    split at h2
    · by_cases e : q = p
      · subst e
        omega
      · exact rnk_ch n (p + 1) q (by omega) h2
    · omega
/-- the letters of a token behind its first -/
theorem tkB_ch {t : Int → Int} {L f q : Int} (h1 : f < q) (h2 : q < tkB t L f) : 48 ≤ t q := by
  unfold tkB at h2
  by_cases hf : f < L
  · have e : tk1 L f = f + 1 := if_pos hf
    rw [e] at h2
    exact rnk_ch _ _ q (by omega) h2
  · have e : tk1 L f = f := if_neg hf
    have s0 : tkS t L f = 0 := if_neg (by omega)
    have d0 : tkD t L f = 0 := if_neg (by omega)
    rw [e, s0, d0, rnk_00] at h2
    omega
section KE
variable {G : GG} {b : Nat × Nat} {Q : Option VV → Hp → Prop} {t : Int → Int} {L : Int}
set_option maxHeartbeats 4000000 in
theorem Lc_run {c s d : Int} (hs : (97 ≤ c ∧ c ≤ 122 ∧ s = 1 ∧ d = 0) ∨ (48 ≤ c ∧ c ≤ 57 ∧ s = 0 ∧ d = 1)) : ∀ (n : Nat) (p : Int) (h : Hp), TC t L h → h 32 4 = p → 0 ≤ p → p + n = L → (∀ g, TW h g → g 32 3 = h 32 3 → g 32 4 = rnk t L s d n p → Q none g) → AW G mm_X6_nextToken b 101 [(0, vR 32), (1, vI c)] [] h Q := by
  intro n
  induction n with
  | zero =>
    intro p h hC hp p0 hn hk
    obtain ⟨hT, hL, hb, ht⟩ := hC
    have hT6 := hT.2.2.2.2.2.1
    refine sg_X6_nextToken_101 ?_
    rw [hL, hp]
    exact ⟨hT6.1, fun _ => hk h TW.refl rfl hp, fun q => by omega⟩
  | succ n ih =>
    intro p h hC hp p0 hn hk
    have hC2 := hC
    obtain ⟨hT, hL, hb, ht⟩ := hC
    have hT6 := hT.2.2.2.2.2.1
    have tp := ht p p0 (by omega)
    have hk : ∀ g, TW h g → g 32 3 = h 32 3 → g 32 4 = (if p < L ∧ ((¬ s = 0 ∧ 97 ≤ t p ∧ t p ≤ 122) ∨ (¬ d = 0 ∧ 48 ≤ t p ∧ t p ≤ 57)) then rnk t L s d n (p + 1) else p) → Q none g := hk
    refine sg_X6_nextToken_101 ?_
    rw [hL, hp, hT6.2.1, tp.1]
    refine ⟨hT6.1, fun q => by omega, fun _ => ⟨hT6.2.2.2.1, p0, by rw [hT6.2.2.2.2.1]; omega, ?_⟩⟩
    have go : AW G mm_X6_nextToken b 101 [(0, vR 32), (1, vI c)] [] (wr h 32 4 (p + 1)) Q ∨ ¬ (p < L ∧ ((¬ s = 0 ∧ 97 ≤ t p ∧ t p ≤ 122) ∨ (¬ d = 0 ∧ 48 ≤ t p ∧ t p ≤ 57))) := by
      by_cases hc : p < L ∧ ((¬ s = 0 ∧ 97 ≤ t p ∧ t p ≤ 122) ∨ (¬ d = 0 ∧ 48 ≤ t p ∧ t p ≤ 57))
      · refine Or.inl (ih (p + 1) _ (hC2.v (tw_32 (Or.inr rfl)).1) wr_e (by omega) (by omega) (fun g a1 a2 a3 => hk g ((tw_32 (Or.inr rfl)).trans a1) (by rw [a2, wr_k (by decide)]) (by rw [if_pos hc]; exact a3)))
      · exact Or.inr hc
    have st : ¬ (p < L ∧ ((¬ s = 0 ∧ 97 ≤ t p ∧ t p ≤ 122) ∨ (¬ d = 0 ∧ 48 ≤ t p ∧ t p ≤ 57))) → Q none h := fun hc => hk h TW.refl rfl (by rw [if_neg hc]; exact hp)
    refine rn_X6_isAlike ⟨fun q => ?_, fun q => ?_⟩
    · refine sg_X6_nextToken_125 ⟨fun z => st ?_, fun z => ⟨hT6.1, by rw [hp]; unfold inI; omega, ?_⟩⟩
      · rw [b2i_0] at z
        omega
      · simp only [forall_eq]
        rw [hp]
        rw [b2i_n] at z
        exact go.resolve_right (by omega)
    · refine sg_X6_nextToken_125 ⟨fun z => st ?_, fun z => ⟨hT6.1, by rw [hp]; unfold inI; omega, ?_⟩⟩
      · rw [b2i_0] at z
        omega
      · simp only [forall_eq]
        rw [hp]
        rw [b2i_n] at z
        exact go.resolve_right (by omega)
set_option maxHeartbeats 4000000 in
theorem Lc_at {f : Int} {h : Hp} (hC : TC t L h) (hf : h 32 3 = f) (f0 : 0 ≤ f) (f1 : f < L) (hk : ∀ g, TW h g → g 32 3 = f → g 32 4 = tkB t L f → Q none g) : ((97 ≤ t f ∧ t f ≤ 122) → AW G mm_X6_nextToken b 101 [(0, vR 32), (1, vI (t f))] [] (wr (wr h 32 4 f) 32 4 (f + 1)) Q) ∧ ((¬ (97 ≤ t f ∧ t f ≤ 122)) → ((48 ≤ t f ∧ t f ≤ 57) → AW G mm_X6_nextToken b 101 [(0, vR 32), (1, vI (t f))] [] (wr (wr h 32 4 f) 32 4 (f + 1)) Q) ∧ ((¬ (48 ≤ t f ∧ t f ≤ 57)) → Q none (wr (wr h 32 4 f) 32 4 (f + 1)))) := by
  have e1 : tk1 L f = f + 1 := if_pos f1
  have w : TW h (wr (wr h 32 4 f) 32 4 (f + 1)) := (tw_32 (Or.inr rfl)).trans (tw_32 (Or.inr rfl))
  have w3 : wr (wr h 32 4 f) 32 4 (f + 1) 32 3 = f := by rw [wr_k (by decide), wr_k (by decide)]; exact hf
  refine ⟨fun q => ?_, fun q => ⟨fun q2 => ?_, fun q2 => ?_⟩⟩
  · refine Lc_run (s := 1) (d := 0) (Or.inl ⟨q.1, q.2, rfl, rfl⟩) (L - (f + 1)).toNat (f + 1) _ (hC.v w.1) wr_e (by omega) (by omega) (fun g a1 a2 a3 => hk g (w.trans a1) (by rw [a2]; exact w3) ?_)
    unfold tkB
    rw [e1, show tkS t L f = 1 from if_pos ⟨f1, q⟩, show tkD t L f = 0 from if_neg (by omega)]
    exact a3
  · refine Lc_run (s := 0) (d := 1) (Or.inr ⟨q2.1, q2.2, rfl, rfl⟩) (L - (f + 1)).toNat (f + 1) _ (hC.v w.1) wr_e (by omega) (by omega) (fun g a1 a2 a3 => hk g (w.trans a1) (by rw [a2]; exact w3) ?_)
    unfold tkB
    rw [e1, show tkS t L f = 0 from if_neg (by omega), show tkD t L f = 1 from if_pos ⟨f1, q2⟩]
    exact a3
  · refine hk _ w w3 ?_
    unfold tkB
    rw [e1, show tkS t L f = 0 from if_neg (by omega), show tkD t L f = 0 from if_neg (by omega), rnk_00, wr_e]
set_option maxHeartbeats 4000000 in
theorem Lc_skp : ∀ (n : Nat) (p : Int) (h : Hp), TC t L h → h 32 3 = p → 0 ≤ p → p + n = L → (∀ g, TW h g → g 32 3 = skp t L n p → g 32 4 = tkB t L (skp t L n p) → Q none g) → AW G mm_X6_nextToken b 8 [(0, vR 32)] [] h Q := by
  intro n
  induction n with
  | zero =>
    intro p h hC hp p0 hn hk
    have hC2 := hC
    obtain ⟨hT, hL, hb, ht⟩ := hC
    have hT6 := hT.2.2.2.2.2.1
    refine sg_X6_nextToken_8 ?_
    rw [hL, hp]
    refine ⟨hT6.1, fun _ => ?_, fun q => by omega⟩
    simp only [forall_eq]
    refine ⟨fun q => by omega, fun _ => ?_⟩
    have hk : ∀ g, TW h g → g 32 3 = p → g 32 4 = tkB t L p → Q none g := hk
    refine hk _ (tw_32 (Or.inr rfl)) (by rw [wr_k (by decide)]; exact hp) ?_
    have e1 : tk1 L p = p := if_neg (by omega)
    unfold tkB
    rw [e1, show tkS t L p = 0 from if_neg (by omega), show tkD t L p = 0 from if_neg (by omega), rnk_00, wr_e]
  | succ n ih =>
    intro p h hC hp p0 hn hk
    have hC2 := hC
    obtain ⟨hT, hL, hb, ht⟩ := hC
    have hT6 := hT.2.2.2.2.2.1
    have tp := ht p p0 (by omega)
    have e : skp t L (n + 1) p = if p < L ∧ t p = 32 then skp t L n (p + 1) else p := rfl
    rw [e] at hk
    refine sg_X6_nextToken_8 ?_
    rw [hL, hp, hT6.2.1, tp.1, hT6.2.2.2.1, hT6.2.2.2.2.1]
    refine ⟨hT6.1, fun q => by omega, fun _ => ⟨rfl, p0, by omega, fun q2 => ?_, fun q2 => ⟨by unfold inI; omega, ?_⟩⟩⟩
    · rw [if_neg (by omega)] at hk
      simp only [forall_eq]
      exact ⟨fun _ => ⟨by unfold inI; omega, Lc_at hC2 hp p0 (by omega) hk⟩, fun q => by omega⟩
    · rw [if_pos ⟨by omega, q2⟩] at hk
      simp only [forall_eq]
      exact ih (p + 1) _ (hC2.v (tw_32 (Or.inl rfl)).1) wr_e (by omega) (by omega) (fun g a1 a2 a3 => hk g ((tw_32 (Or.inl rfl)).trans a1) a2 a3)
theorem K_next {p : Int} {h : Hp} (hC : TC t L h) (hp : h 32 4 = p) (p0 : 0 ≤ p) (p1 : p ≤ L) (hk : ∀ g, TW h g → g 32 3 = tkF t L p → g 32 4 = tkB t L (tkF t L p) → Q none g) : Runs G mm_X6_nextToken [vR 32] h Q := by
  refine rn_X6_nextToken ⟨hC.1.2.2.2.2.2.1.1, ?_⟩
  simp only [forall_eq]
  rw [hp]
  exact Lc_skp (L - p).toNat p _ (hC.v (tw_32 (Or.inl rfl)).1) wr_e p0 (by omega) (fun g a1 a2 a3 => hk g ((tw_32 (Or.inl rfl)).trans a1) a2 a3)
abbrev tl (i : Nat) : Nat := txL.getD i 0
abbrev cw (i k : Nat) : Int := ((txB.getD i []).getD k 0).toInt
def tkP (t : Int → Int) (f e : Int) (i : Nat) : Prop := e - f = tl i ∧ ∀ k : Nat, k < tl i → t (f + k) = cw i k
set_option maxHeartbeats 4000000 in
theorem Lc_tok {f e : Int} {i : Nat} {h : Hp} (hC : TC t L h) (hi : i < 6) (hf : h 32 3 = f) (f0 : 0 ≤ f) (e1 : e ≤ L) (hl : e - f = tl i) (hk1 : tkP t f e i → Q (some (vI 1)) h) (hk0 : ¬ tkP t f e i → Q (some (vI 0)) h) : ∀ (m k : Nat), k + m = tl i → (∀ x : Nat, x < k → t (f + x) = cw i x) → AW G mm_X6_isToken b 20 [(0, vR 32), (1, vR (-2 - (i : Int))), (2, vI (k : Int))] [] h Q := by
  obtain ⟨hT, hL, hb, ht⟩ := hC
  have hT6 := hT.2.2.2.2.2.1
  have ts := tx_small i hi
  have etl : tl i = txL.getD i 0 := rfl
  intro m
  induction m with
  | zero =>
    intro k hk hx
    refine sg_X6_isToken_20 ⟨⟨i, hi, rfl⟩, st_length hi ?_⟩
    refine sg_X6_isToken_25 ⟨fun _ => hk1 ⟨hl, fun x hxx => hx x (by omega)⟩, fun q => by omega⟩
  | succ m ih =>
    intro k hk hx
    have tk := ht (f + k) (by omega) (by omega)
    refine sg_X6_isToken_20 ⟨⟨i, hi, rfl⟩, st_length hi ?_⟩
    refine sg_X6_isToken_25 ⟨fun q => by omega, fun _ => ?_⟩
    rw [hf, hT6.2.1, tk.1]
    refine ⟨hT6.1, by unfold inI; omega, hT6.2.2.2.1, by omega, by rw [hT6.2.2.2.2.1]; omega, ⟨i, hi, rfl⟩, st_char hi (by omega) (by omega) ?_⟩
    refine sg_X6_isToken_44 ⟨fun q => ⟨by unfold inI; omega, ?_⟩, fun q => hk0 (fun z => q ?_)⟩
    · refine ih (k + 1) (by omega) (fun x hxx => ?_)
      by_cases hxk : x = k
      · subst hxk
        exact q
      · exact hx x (by omega)
    · exact z.2 k (by omega)
theorem K_tok {f e a : Int} {i : Nat} {h : Hp} (hC : TC t L h) (hi : i < 6) (ha : a = -2 - (i : Int)) (hf : h 32 3 = f) (he : h 32 4 = e) (f0 : 0 ≤ f) (f1 : f ≤ e) (e1 : e ≤ L) (hk1 : tkP t f e i → Q (some (vI 1)) h) (hk0 : ¬ tkP t f e i → Q (some (vI 0)) h) : Runs G mm_X6_isToken [vR 32, vR a] h Q := by
  subst ha
  have hb := hC.2.2.1
  refine rn_X6_isToken ⟨hC.1.2.2.2.2.2.1.1, by rw [hf, he]; unfold inI; omega, ⟨i, hi, rfl⟩, st_length hi ?_⟩
  rw [hf, he]
  refine sg_X6_isToken_13 ⟨fun q => ?_, fun q => hk0 (fun z => q z.1)⟩
  exact Lc_tok hC hi hf f0 e1 q hk1 hk0 (tl i) 0 (by omega) (fun x hx => by omega)
def WT (W : Int → Int) : Prop := ∀ i k : Nat, i < 6 → k < 5 → W (5 * i + k) = if k < tl i then cw i k else 0
theorem cw_nz : ∀ i : Nat, i < 6 → ∀ k : Nat, k < tl i → ¬ cw i k = 0 := by decide +kernel
theorem tl_in : ∀ i : Nat, i < 6 → 1 ≤ tl i ∧ tl i ≤ 5 := by decide +kernel
theorem wk_iff {W : Int → Int} {f e w : Int} : ∀ n : Nat, ¬ wk t W f e w n = 0 ↔ (f < e ∧ e - f < 6) ∧ ∀ k : Nat, k < n → W (5 * w + k) = (if f + (k : Int) < e then t (f + k) else 0)
  | 0 => by
    unfold wk
    split
    · exact ⟨fun _ => ⟨by assumption, fun k hk => by omega⟩, fun _ => by decide⟩
    · exact ⟨fun h => absurd rfl h, fun h => absurd h.1 (by assumption)⟩
  | n + 1 => by
    have ih := wk_iff (W := W) (f := f) (e := e) (w := w) n
    unfold wk
    by_cases hz : wk t W f e w n = 0
    · rw [if_pos hz]
      refine ⟨fun h => absurd rfl h, fun h => absurd hz (ih.mpr ⟨h.1, fun k hk => h.2 k (by omega)⟩)⟩
    · rw [if_neg hz]
      obtain ⟨i1, i2⟩ := ih.mp hz
      by_cases hw : W (5 * w + (n : Int)) = (if f + (n : Int) < e then t (f + (n : Int)) else 0)
      · rw [if_pos hw]
        refine ⟨fun _ => ⟨i1, fun k hk => ?_⟩, fun _ => by decide⟩
        by_cases hkn : k = n
        · subst hkn
          exact hw
        · exact i2 k (by omega)
      · rw [if_neg hw]
        exact ⟨fun h => absurd rfl h, fun h => absurd (h.2 n (by omega)) hw⟩
/-- the class's and the reference's words for the same -/
theorem tok_iff {W : Int → Int} {f e : Int} {i : Nat} (hW : WT W) (hi : i < 6) (hf : f ≤ e) (hch : ∀ q, f < q → q < e → 48 ≤ t q) : ¬ wk t W f e i 5 = 0 ↔ tkP t f e i := by
  have l := tl_in i hi
  rw [wk_iff]
  constructor
  · intro ⟨⟨h1, h2⟩, h3⟩
    have hl : e - f = tl i := by
      have lo : ¬ e - f < tl i := fun hlt => by
        have h := h3 (e - f).toNat (by omega)
        rw [hW i _ hi (by omega), if_pos (by omega), if_neg (by omega)] at h
        exact cw_nz i hi _ (by omega) h
      have hi2 : ¬ e - f > tl i := fun hgt => by
        have h := h3 (tl i) (by omega)
        rw [hW i _ hi (by omega), if_neg (by omega), if_pos (by omega)] at h
        have := hch (f + (tl i : Int)) (by omega) (by omega)
        omega
      omega
    refine ⟨hl, fun k hk => ?_⟩
    have h := h3 k (by omega)
    rw [hW i k hi (by omega), if_pos hk, if_pos (by omega)] at h
    exact h.symm
  · intro ⟨h1, h2⟩
    refine ⟨⟨by omega, by omega⟩, fun k hk => ?_⟩
    rw [hW i k hi hk]
    by_cases hkl : k < tl i
    · rw [if_pos hkl, if_pos (by omega)]
      exact (h2 k hkl).symm
    · rw [if_neg hkl, if_neg (by omega)]
set_option maxHeartbeats 4000000 in
theorem K_word {W : Int → Int} {f e : Int} {h : Hp} (hC : TC t L h) (hW : WT W) (hf : h 32 3 = f) (he : h 32 4 = e) (f0 : 0 ≤ f) (f1 : f ≤ e) (e1 : e ≤ L) (hch : ∀ q, f < q → q < e → 48 ≤ t q) (hk : Q (some (vI (wdh t W f e 6 0))) h) : Runs G mm_X6_wordOfToken [vR 32] h Q := by
  have s7 := hC.1.2.2.2.2.2.1.1
  have I : ∀ i : Nat, i < 6 → (¬ wk t W f e i 5 = 0 ↔ tkP t f e i) := fun i hi => tok_iff hW hi f1 hch
  have i0 : ¬ wk t W f e 0 5 = 0 ↔ tkP t f e 0 := I 0 (by decide)
  have i1 : ¬ wk t W f e 1 5 = 0 ↔ tkP t f e 1 := I 1 (by decide)
  have i2 : ¬ wk t W f e 2 5 = 0 ↔ tkP t f e 2 := I 2 (by decide)
  have i3 : ¬ wk t W f e 3 5 = 0 ↔ tkP t f e 3 := I 3 (by decide)
  have i4 : ¬ wk t W f e 4 5 = 0 ↔ tkP t f e 4 := I 4 (by decide)
  have i5 : ¬ wk t W f e 5 5 = 0 ↔ tkP t f e 5 := I 5 (by decide)
  have hk : Q (some (vI (if wk t W f e 0 5 = 0 then if wk t W f e 1 5 = 0 then if wk t W f e 2 5 = 0 then if wk t W f e 3 5 = 0 then if wk t W f e 4 5 = 0 then if wk t W f e 5 5 = 0 then -1 else 5 else 4 else 3 else 2 else 1 else 0))) h := hk
  have N : ∀ {p : Int} {P : Prop}, (¬ p = 0 ↔ P) → ¬ P → p = 0 := fun hp hn => Decidable.byContradiction (fun z => hn (hp.mp z))
  refine rn_X6_wordOfToken ⟨s7, K_tok hC (i := 0) (by decide) rfl hf he f0 f1 e1 (fun y => ?_) (fun y => ?_)⟩
  · rw [if_neg (i0.mpr y)] at hk
    exact sg_X6_wordOfToken_6 ⟨fun z => absurd z (by decide), fun _ => hk⟩
  rw [if_pos (N i0 y)] at hk
  refine sg_X6_wordOfToken_6 ⟨fun _ => ⟨s7, K_tok hC (i := 1) (by decide) rfl hf he f0 f1 e1 (fun y => ?_) (fun y => ?_)⟩, fun z => absurd rfl z⟩
  · rw [if_neg (i1.mpr y)] at hk
    exact sg_X6_wordOfToken_17 ⟨fun z => absurd z (by decide), fun _ => hk⟩
  rw [if_pos (N i1 y)] at hk
  refine sg_X6_wordOfToken_17 ⟨fun _ => ⟨s7, K_tok hC (i := 2) (by decide) rfl hf he f0 f1 e1 (fun y => ?_) (fun y => ?_)⟩, fun z => absurd rfl z⟩
  · rw [if_neg (i2.mpr y)] at hk
    exact sg_X6_wordOfToken_28 ⟨fun z => absurd z (by decide), fun _ => hk⟩
  rw [if_pos (N i2 y)] at hk
  refine sg_X6_wordOfToken_28 ⟨fun _ => ⟨s7, K_tok hC (i := 3) (by decide) rfl hf he f0 f1 e1 (fun y => ?_) (fun y => ?_)⟩, fun z => absurd rfl z⟩
  · rw [if_neg (i3.mpr y)] at hk
    exact sg_X6_wordOfToken_39 ⟨fun z => absurd z (by decide), fun _ => hk⟩
  rw [if_pos (N i3 y)] at hk
  refine sg_X6_wordOfToken_39 ⟨fun _ => ⟨s7, K_tok hC (i := 4) (by decide) rfl hf he f0 f1 e1 (fun y => ?_) (fun y => ?_)⟩, fun z => absurd rfl z⟩
  · rw [if_neg (i4.mpr y)] at hk
    exact sg_X6_wordOfToken_50 ⟨fun z => absurd z (by decide), fun _ => hk⟩
  rw [if_pos (N i4 y)] at hk
  refine sg_X6_wordOfToken_50 ⟨fun _ => ⟨s7, K_tok hC (i := 5) (by decide) rfl hf he f0 f1 e1 (fun y => ?_) (fun y => ?_)⟩, fun z => absurd rfl z⟩
  · rw [if_neg (i5.mpr y)] at hk
    exact sg_X6_wordOfToken_61 ⟨fun z => absurd z (by decide), fun _ => hk⟩
  rw [if_pos (N i5 y)] at hk
  exact sg_X6_wordOfToken_61 ⟨fun _ => hk, fun z => absurd rfl z⟩
end KE
theorem WT_of {σ : Hp} (hT : ST σ) : WT (σ 116) := by
  obtain ⟨t0, t1, t2, t3, t4, t5, t6, t7, t8, t9, t10, t11, t12, t13, t14, t15, t16, t17, t18, t19, t20, t21, t22, t23, t24, t25, t26, t27, t28, t29, t30, t31, t32, t33, t34, t35, t36, t37, t38, t39, t40, t41, t42, t43, t44, t45, t46, t47, t48, t49, t50, t51, t52, t53, t54, t55, t56, t57, t58, t59, t60, t61, t62, t63, t64, t65, t66, t67, t68, t69, t70, t71, t72, t73, t74, t75, t76, t77, t78, t79, t80, t81, t82, t83, t84, t85, t86, t87, t88, t89, t90, t91, t92, t93, t94, t95, t96, t97, t98, t99, t100, t101, t102, t103, t104, t105, t106, t107, t108, t109, t110, t111, t112, t113, t114⟩ := hT
  intro i k hi hk
  rcases (show i = 0 ∨ i = 1 ∨ i = 2 ∨ i = 3 ∨ i = 4 ∨ i = 5 by omega) with rfl | rfl | rfl | rfl | rfl | rfl
  · rcases (show k = 0 ∨ k = 1 ∨ k = 2 ∨ k = 3 ∨ k = 4 by omega) with rfl | rfl | rfl | rfl | rfl
    · exact t85
    · exact t86
    · exact t87
    · exact t88
    · exact t89
  · rcases (show k = 0 ∨ k = 1 ∨ k = 2 ∨ k = 3 ∨ k = 4 by omega) with rfl | rfl | rfl | rfl | rfl
    · exact t90
    · exact t91
    · exact t92
    · exact t93
    · exact t94
  · rcases (show k = 0 ∨ k = 1 ∨ k = 2 ∨ k = 3 ∨ k = 4 by omega) with rfl | rfl | rfl | rfl | rfl
    · exact t95
    · exact t96
    · exact t97
    · exact t98
    · exact t99
  · rcases (show k = 0 ∨ k = 1 ∨ k = 2 ∨ k = 3 ∨ k = 4 by omega) with rfl | rfl | rfl | rfl | rfl
    · exact t100
    · exact t101
    · exact t102
    · exact t103
    · exact t104
  · rcases (show k = 0 ∨ k = 1 ∨ k = 2 ∨ k = 3 ∨ k = 4 by omega) with rfl | rfl | rfl | rfl | rfl
    · exact t105
    · exact t106
    · exact t107
    · exact t108
    · exact t109
  · rcases (show k = 0 ∨ k = 1 ∨ k = 2 ∨ k = 3 ∨ k = 4 by omega) with rfl | rfl | rfl | rfl | rfl
    · exact t110
    · exact t111
    · exact t112
    · exact t113
    · exact t114
