/-! the class's memory: what it shows of the reference's memory σ; rows 89 .. 117 and 6 are ρ's -/
abbrev CT (h : Hp) : Prop := (h 1 (-1) = 10 ∧ h 1 0 = 2 ∧ h 1 1 = 3 ∧ h 1 2 = 4 ∧ h 1 3 = 32) ∧ (h 2 (-1) = 32 ∧ h 2 (-2) = 2) ∧ (h 3 (-1) = 31 ∧ h 3 (-2) = 4) ∧ (h 4 (-1) = 8 ∧ h 4 0 = 5 ∧ h 4 1 = 6 ∧ h 4 2 = 7) ∧ (h 5 (-1) = 35 ∧ h 5 (-2) = 24 ∧ h 6 (-1) = 6 ∧ h 7 (-1) = 20 ∧ h 7 (-2) = 2) ∧ (h 32 (-1) = 7 ∧ h 32 0 = 33 ∧ h 32 1 = 34 ∧ h 33 (-1) = 22 ∧ h 33 (-2) = 200 ∧ h 34 (-1) = 20 ∧ h 34 (-2) = 5) ∧ (∀ j, 0 ≤ j → j < 2 → h 2 j = 35 + 7 * j ∧ h (35 + 7 * j) (-1) = 3 ∧ h (35 + 7 * j) 0 = 36 + 7 * j ∧ h (35 + 7 * j) 1 = 37 + 7 * j ∧ h (36 + 7 * j) (-1) = 20 ∧ h (36 + 7 * j) (-2) = 12 ∧ h (37 + 7 * j) (-1) = 33 ∧ h (37 + 7 * j) (-2) = 4) ∧ (∀ j k, 0 ≤ j → j < 2 → 0 ≤ k → k < 4 → h (37 + 7 * j) k = 38 + 7 * j + k ∧ h (38 + 7 * j + k) (-1) = 4) ∧ (∀ e, 0 ≤ e → e < 4 → h 3 e = 49 + 10 * e ∧ h (49 + 10 * e) (-1) = 2 ∧ h (49 + 10 * e) 0 = e ∧ h (49 + 10 * e) 1 = 35 + 7 * (e % 2) ∧ h (49 + 10 * e) 2 = 4 ∧ h (49 + 10 * e) 3 = 50 + 10 * e ∧ h (49 + 10 * e) 4 = 51 + 10 * e ∧ h (49 + 10 * e) 5 = 52 + 10 * e ∧ h (50 + 10 * e) (-1) = 38 ∧ h (50 + 10 * e) (-2) = 4 ∧ h (51 + 10 * e) (-1) = 20 ∧ h (51 + 10 * e) (-2) = 3 ∧ h (52 + 10 * e) (-1) = 1 ∧ h (52 + 10 * e) 0 = 53 + 10 * e ∧ h (52 + 10 * e) 1 = 54 + 10 * e ∧ h (53 + 10 * e) (-1) = 20 ∧ h (53 + 10 * e) (-2) = 2 ∧ h (54 + 10 * e) (-1) = 20 ∧ h (54 + 10 * e) (-2) = 2) ∧ (∀ a, 8 ≤ a → a ≤ 31 → h a (-1) = 6) ∧ (∀ a, 55 ≤ a → a ≤ 88 → (a - 55) % 10 < 4 → h a (-1) = 9)
/-- the places that never change -/
def Fx (a k : Int) : Prop := k = -1 ∨ k = -2 ∨ (a = 1 ∧ 0 ≤ k ∧ k < 4) ∨ a = 2 ∨ a = 3 ∨ (a = 4 ∧ 0 ≤ k ∧ k < 3) ∨ (a = 32 ∧ 0 ≤ k ∧ k < 2) ∨ ((a = 35 ∨ a = 42) ∧ 0 ≤ k ∧ k < 2) ∨ a = 37 ∨ a = 44 ∨ ((a = 49 ∨ a = 59 ∨ a = 69 ∨ a = 79) ∧ 0 ≤ k ∧ k < 6) ∨ ((a = 52 ∨ a = 62 ∨ a = 72 ∨ a = 82) ∧ 0 ≤ k ∧ k < 2)
theorem CT_of {h g : Hp} (hT : CT h) (H : ∀ a k, 1 ≤ a → a ≤ 88 → Fx a k → g a k = h a k) : CT g := by
  obtain ⟨t1, t2, t3, t4, t5, t6, t7, t8, t9, t10, t11⟩ := hT
  refine ⟨?_, ?_, ?_, ?_, ?_, ?_, fun j j0 j1 => ?_, fun j k j0 j1 k0 k1 => ?_, fun e e0 e1 => ?_, fun a a0 a1 => ?_, fun a a0 a1 a2 => ?_⟩
  · rw [H 1 (-1) (by omega) (by omega) (by unfold Fx; omega), H 1 0 (by omega) (by omega) (by unfold Fx; omega), H 1 1 (by omega) (by omega) (by unfold Fx; omega), H 1 2 (by omega) (by omega) (by unfold Fx; omega), H 1 3 (by omega) (by omega) (by unfold Fx; omega)]; exact t1
  · rw [H 2 (-1) (by omega) (by omega) (by unfold Fx; omega), H 2 (-2) (by omega) (by omega) (by unfold Fx; omega)]; exact t2
  · rw [H 3 (-1) (by omega) (by omega) (by unfold Fx; omega), H 3 (-2) (by omega) (by omega) (by unfold Fx; omega)]; exact t3
  · rw [H 4 (-1) (by omega) (by omega) (by unfold Fx; omega), H 4 0 (by omega) (by omega) (by unfold Fx; omega), H 4 1 (by omega) (by omega) (by unfold Fx; omega), H 4 2 (by omega) (by omega) (by unfold Fx; omega)]; exact t4
  · rw [H 5 (-1) (by omega) (by omega) (by unfold Fx; omega), H 5 (-2) (by omega) (by omega) (by unfold Fx; omega), H 6 (-1) (by omega) (by omega) (by unfold Fx; omega), H 7 (-1) (by omega) (by omega) (by unfold Fx; omega), H 7 (-2) (by omega) (by omega) (by unfold Fx; omega)]; exact t5
  · rw [H 32 (-1) (by omega) (by omega) (by unfold Fx; omega), H 32 0 (by omega) (by omega) (by unfold Fx; omega), H 32 1 (by omega) (by omega) (by unfold Fx; omega), H 33 (-1) (by omega) (by omega) (by unfold Fx; omega), H 33 (-2) (by omega) (by omega) (by unfold Fx; omega), H 34 (-1) (by omega) (by omega) (by unfold Fx; omega), H 34 (-2) (by omega) (by omega) (by unfold Fx; omega)]; exact t6
  · rw [H (2) (j) (by omega) (by omega) (by unfold Fx; omega), H (35 + 7 * j) (-1) (by omega) (by omega) (by unfold Fx; omega), H (35 + 7 * j) (0) (by omega) (by omega) (by unfold Fx; omega), H (35 + 7 * j) (1) (by omega) (by omega) (by unfold Fx; omega), H (36 + 7 * j) (-1) (by omega) (by omega) (by unfold Fx; omega), H (36 + 7 * j) (-2) (by omega) (by omega) (by unfold Fx; omega), H (37 + 7 * j) (-1) (by omega) (by omega) (by unfold Fx; omega), H (37 + 7 * j) (-2) (by omega) (by omega) (by unfold Fx; omega)]; exact t7 j j0 j1
  · rw [H (37 + 7 * j) (k) (by omega) (by omega) (by unfold Fx; omega), H (38 + 7 * j + k) (-1) (by omega) (by omega) (by unfold Fx; omega)]; exact t8 j k j0 j1 k0 k1
  · rw [H (3) (e) (by omega) (by omega) (by unfold Fx; omega), H (49 + 10 * e) (-1) (by omega) (by omega) (by unfold Fx; omega), H (49 + 10 * e) (0) (by omega) (by omega) (by unfold Fx; omega), H (49 + 10 * e) (1) (by omega) (by omega) (by unfold Fx; omega), H (49 + 10 * e) (2) (by omega) (by omega) (by unfold Fx; omega), H (49 + 10 * e) (3) (by omega) (by omega) (by unfold Fx; omega), H (49 + 10 * e) (4) (by omega) (by omega) (by unfold Fx; omega), H (49 + 10 * e) (5) (by omega) (by omega) (by unfold Fx; omega), H (50 + 10 * e) (-1) (by omega) (by omega) (by unfold Fx; omega), H (50 + 10 * e) (-2) (by omega) (by omega) (by unfold Fx; omega), H (51 + 10 * e) (-1) (by omega) (by omega) (by unfold Fx; omega), H (51 + 10 * e) (-2) (by omega) (by omega) (by unfold Fx; omega), H (52 + 10 * e) (-1) (by omega) (by omega) (by unfold Fx; omega), H (52 + 10 * e) (0) (by omega) (by omega) (by unfold Fx; omega), H (52 + 10 * e) (1) (by omega) (by omega) (by unfold Fx; omega), H (53 + 10 * e) (-1) (by omega) (by omega) (by unfold Fx; omega), H (53 + 10 * e) (-2) (by omega) (by omega) (by unfold Fx; omega), H (54 + 10 * e) (-1) (by omega) (by omega) (by unfold Fx; omega), H (54 + 10 * e) (-2) (by omega) (by omega) (by unfold Fx; omega)]; exact t9 e e0 e1
  · rw [H (a) (-1) (by omega) (by omega) (by unfold Fx; omega)]; exact t10 a a0 a1
  · rw [H (a) (-1) (by omega) (by omega) (by unfold Fx; omega)]; exact t11 a a0 a1 a2
theorem ct_wr {h : Hp} {a k v : Int} (hT : CT h) (hF : ¬ Fx a k) : CT (wr h a k v) := CT_of hT (fun b j _ _ hb => by
  unfold wr
  split
  · rename_i hc
    rw [hc.1, hc.2] at hb
    exact absurd hb hF
  · rfl)
theorem ct_cpx {h : Hp} {a d s n : Int} (hT : CT h) (h0 : 0 ≤ d) (hF : ∀ k, 0 ≤ k → ¬ Fx a k) : CT (cpx h a d a s n) := CT_of hT (fun b j _ _ hb => by
  unfold cpx
  split
  · rename_i hc
    rw [hc.1] at hb
    exact absurd hb (hF j (by omega))
  · rfl)
theorem ct_nw {h : Hp} {c n : Int} (hT : CT h) (ht : 117 ≤ h 0 0) : CT (nw h c n) := CT_of hT (fun b j b1 b2 _ => nw_off (by omega) b1)
abbrev Cc (σ h : Hp) : Prop := ∀ j c, 0 ≤ j → j < 2 → 0 ≤ c → c < 12 → h (36 + 7 * j) c = σ 90 (12 * j + c)
abbrev Ck (σ h : Hp) : Prop := ∀ j k, 0 ≤ j → j < 2 → 0 ≤ k → k < 4 → (σ 92 (4 * j + k) = 0 → h (38 + 7 * j + k) 0 = 0) ∧ (¬ σ 92 (4 * j + k) = 0 → h (38 + 7 * j + k) 0 = 1 ∧ h (38 + 7 * j + k) 1 = σ 91 (4 * j + k) ∧ h (38 + 7 * j + k) 2 = σ 92 (4 * j + k) ∧ h (38 + 7 * j + k) 3 = σ 93 (4 * j + k))
abbrev CE (σ h : Hp) : Prop := ∀ e, 0 ≤ e → e < 4 → h (49 + 10 * e) 6 = σ 94 e ∧ h (49 + 10 * e) 7 = σ 95 e ∧ h (49 + 10 * e) 8 = σ 96 e ∧ h (49 + 10 * e) 9 = σ 98 e ∧ h (49 + 10 * e) 10 = σ 99 e ∧ h (49 + 10 * e) 11 = σ 101 e ∧ h (49 + 10 * e) 12 = σ 102 e ∧ h (49 + 10 * e) 13 = σ 103 e ∧ h (49 + 10 * e) 14 = σ 106 e ∧ h (49 + 10 * e) 15 = σ 107 e ∧ h (52 + 10 * e) 2 = σ 104 e
abbrev Cw (σ h : Hp) : Prop := ∀ e, 0 ≤ e → e < 4 → (0 ≤ σ 96 e ∧ σ 96 e ≤ 4 ∧ pc e σ (σ 96 e).toNat ≤ 2) ∧ (∀ i, 0 ≤ i → i < 4 → 55 + 10 * e ≤ h (50 + 10 * e) i ∧ h (50 + 10 * e) i ≤ 58 + 10 * e) ∧ (∀ i j, 0 ≤ i → i < j → j < 4 → ¬ h (50 + 10 * e) i = h (50 + 10 * e) j) ∧ (∀ i k, 0 ≤ i → i < σ 96 e → 0 ≤ k → k < 7 → h (h (50 + 10 * e) i) k = σ 97 (28 * e + 7 * i + k))
abbrev Cr (σ h : Hp) : Prop := ∀ e i, 0 ≤ e → e < 4 → 0 ≤ i → i < σ 99 e → h (51 + 10 * e) i = σ 100 (3 * e + i)
abbrev Cg (σ h : Hp) : Prop := ∀ e i, 0 ≤ e → e < 4 → 0 ≤ i → i < σ 104 e → h (53 + 10 * e) i = σ 105 (4 * e + 2 * i) ∧ h (54 + 10 * e) i = σ 105 (4 * e + 2 * i + 1)
/-- a packet object p shows the packet at the place a of row r -/
abbrev PC (σ h : Hp) (r a p : Int) : Prop := h p 0 = σ r a ∧ h p 1 = σ r (a + 9) ∧ h p 2 = σ r (a + 1) ∧ h p 3 = σ r (a + 2) ∧ h p 4 = σ r (a + 8) ∧ (σ r (a + 1) = 0 → h p 5 = σ r (a + 3) ∧ h p 6 = σ r (a + 4) ∧ h p 7 = σ r (a + 5) ∧ h p 8 = σ r (a + 6) ∧ h p 9 = σ r (a + 7))
abbrev Cp (σ h : Hp) : Prop := (h 4 3 = σ 89 21 ∧ h 4 4 = σ 89 29 ∧ h 4 5 = σ 89 19) ∧ (0 ≤ σ 89 21 ∧ σ 89 21 ≤ 24) ∧ (∀ l, 0 ≤ l → l < 2 → h 7 l = σ 108 l) ∧ (∀ i, 0 ≤ i → i < 24 → 8 ≤ h 5 i ∧ h 5 i ≤ 31) ∧ (∀ i j, 0 ≤ i → i < j → j < 24 → ¬ h 5 i = h 5 j) ∧ (∀ i, 0 ≤ i → i < σ 89 21 → PC σ h 109 (11 * i) (h 5 i))
abbrev Cd (σ h : Hp) : Prop := 0 ≤ h 35 5 ∧ 0 ≤ h 42 5 ∧ h 35 5 + h 42 5 = σ 89 28
/-- the chain of what is told at host j: A i is the address of the i-th -/
abbrev Ch (σ h : Hp) (j : Int) (A : Int → Int) : Prop := (∀ i, σ 111 j ≤ i → i < σ 112 j → (118 ≤ A i ∧ A i ≤ h 0 0) ∧ h (A i) (-1) = 5 ∧ h (A i) 0 % 2 = j ∧ (∀ k, 0 ≤ k → k < 5 → h (A i) k = σ 110 (5 * (600 * j + i) + k)) ∧ h (A i) 5 = (if i + 1 = σ 112 j then 0 else A (i + 1))) ∧ (∀ i i', σ 111 j ≤ i → i < i' → i' < σ 112 j → A i < A i') ∧ h (35 + 7 * j) 2 = (if σ 111 j = σ 112 j then 0 else A (σ 111 j)) ∧ h (35 + 7 * j) 3 = (if σ 111 j = σ 112 j then 0 else A (σ 112 j - 1))
abbrev Cn (σ h : Hp) : Prop := ∀ j, 0 ≤ j → j < 2 → h (35 + 7 * j) 4 = σ 112 j - σ 111 j ∧ ∃ A : Int → Int, Ch σ h j A
abbrev Cl (σ h : Hp) : Prop := (σ 89 27 = 0 → h 1 4 = 0) ∧ (¬ σ 89 27 = 0 → (118 ≤ h 1 4 ∧ h 1 4 ≤ h 0 0) ∧ h (h 1 4) (-1) = 5 ∧ h 1 5 = σ 113 0 ∧ (∀ k, 0 ≤ k → k < 5 → h (h 1 4) k = σ 113 (k + 1)))
abbrev Cx (σ h : Hp) : Prop := h 32 2 = σ 89 31 ∧ ∀ i, 0 ≤ i → i < σ 89 31 → h 33 i = σ 114 i
abbrev CB (n : Int) (σ h : Hp) : Prop := 117 ≤ h 0 0 ∧ h 0 0 + σ 96 0 + σ 96 1 + σ 96 2 + σ 96 3 + σ 99 0 + σ 99 1 + σ 99 2 + σ 99 3 ≤ 117 + n
abbrev CO (ρ h : Hp) : Prop := ((∀ a, 89 ≤ a → a ≤ 117 → h a = ρ a) ∧ h 34 = ρ 34 ∧ ∀ k, 3 ≤ k → h 32 k = ρ 32 k) ∧ h 6 = ρ 6
def CR (ρ : Hp) (n : Int) (σ h : Hp) : Prop := CO ρ h ∧ CT h ∧ CB n σ h ∧ Cc σ h ∧ Ck σ h ∧ CE σ h ∧ Cw σ h ∧ Cr σ h ∧ Cg σ h ∧ Cp σ h ∧ Cd σ h ∧ Cn σ h ∧ Cl σ h ∧ Cx σ h
theorem CR.o {ρ σ h : Hp} {n : Int} (hC : CR ρ n σ h) : CO ρ h := hC.1
theorem CR.T {ρ σ h : Hp} {n : Int} (hC : CR ρ n σ h) : CT h := hC.2.1
theorem CR.b {ρ σ h : Hp} {n : Int} (hC : CR ρ n σ h) : CB n σ h := hC.2.2.1
theorem CR.c {ρ σ h : Hp} {n : Int} (hC : CR ρ n σ h) : Cc σ h := hC.2.2.2.1
theorem CR.k {ρ σ h : Hp} {n : Int} (hC : CR ρ n σ h) : Ck σ h := hC.2.2.2.2.1
theorem CR.e {ρ σ h : Hp} {n : Int} (hC : CR ρ n σ h) : CE σ h := hC.2.2.2.2.2.1
theorem CR.w {ρ σ h : Hp} {n : Int} (hC : CR ρ n σ h) : Cw σ h := hC.2.2.2.2.2.2.1
theorem CR.r {ρ σ h : Hp} {n : Int} (hC : CR ρ n σ h) : Cr σ h := hC.2.2.2.2.2.2.2.1
theorem CR.g {ρ σ h : Hp} {n : Int} (hC : CR ρ n σ h) : Cg σ h := hC.2.2.2.2.2.2.2.2.1
theorem CR.p {ρ σ h : Hp} {n : Int} (hC : CR ρ n σ h) : Cp σ h := hC.2.2.2.2.2.2.2.2.2.1
theorem CR.d {ρ σ h : Hp} {n : Int} (hC : CR ρ n σ h) : Cd σ h := hC.2.2.2.2.2.2.2.2.2.2.1
theorem CR.n {ρ σ h : Hp} {n : Int} (hC : CR ρ n σ h) : Cn σ h := hC.2.2.2.2.2.2.2.2.2.2.2.1
theorem CR.l {ρ σ h : Hp} {n : Int} (hC : CR ρ n σ h) : Cl σ h := hC.2.2.2.2.2.2.2.2.2.2.2.2.1
theorem CR.x {ρ σ h : Hp} {n : Int} (hC : CR ρ n σ h) : Cx σ h := hC.2.2.2.2.2.2.2.2.2.2.2.2.2
theorem pc_c {σ τ : Hp} {e : Int} (h : τ 97 = σ 97) : ∀ n : Nat, pc e τ n = pc e σ n
  | 0 => rfl
  | n + 1 => by
    unfold pc
    rw [pc_c h n, h]
theorem pc_e {σ τ : Hp} {e : Int} : ∀ n : Nat, (∀ i : Int, 0 ≤ i → i < n → τ 97 (28 * e + 7 * i + 1) = σ 97 (28 * e + 7 * i + 1)) → pc e τ n = pc e σ n
  | 0, _ => rfl
  | n + 1, h => by
    unfold pc
    rw [pc_e n (fun i i0 i1 => h i i0 (by omega)), h n (by omega) (by omega)]
theorem pc_sh {σ τ : Hp} {e : Int} : ∀ n : Nat, (∀ i : Int, 0 ≤ i → i < n → τ 97 (28 * e + 7 * i + 1) = σ 97 (28 * e + 7 * (i + 1) + 1)) → pc e τ n ≤ pc e σ (n + 1)
  | 0, _ => by
    have := pc_in (e := e) (σ := σ) 1
    show 0 ≤ pc e σ 1
    omega
  | n + 1, h => by
    have ih := pc_sh n (fun i i0 i1 => h i i0 (by omega))
    have e1 : pc e τ (n + 1) = pc e τ n + (if τ 97 (28 * e + 7 * n + 1) ≤ 1 then 0 else 1) := rfl
    have e2 : pc e σ (n + 1 + 1) = pc e σ (n + 1) + (if σ 97 (28 * e + 7 * ((n + 1 : Nat) : Int) + 1) ≤ 1 then 0 else 1) := rfl
    rw [e1, e2, h n (by omega) (by omega), show ((n + 1 : Nat) : Int) = (n : Int) + 1 from rfl]
    omega

section CN
variable {σ τ h g : Hp}
theorem CO_c {ρ : Hp} (h1 : ∀ a, 89 ≤ a → a ≤ 117 → g a = h a) (h2 : g 6 = h 6) (h3 : g 34 = h 34) (h4 : ∀ k, 3 ≤ k → g 32 k = h 32 k) (k : CO ρ h) : CO ρ g := ⟨⟨fun a a0 a1 => by rw [h1 a a0 a1]; exact k.1.1 a a0 a1, by rw [h3]; exact k.1.2.1, fun y y0 => by rw [h4 y y0]; exact k.1.2.2 y y0⟩, by rw [h2]; exact k.2⟩
theorem CB_c {n m : Int} (hn : n ≤ m) (h1 : g 0 0 = h 0 0) (h2 : τ 96 = σ 96) (h3 : τ 99 = σ 99) (k : CB n σ h) : CB m τ g := by
  rw [CB, h1, h2, h3]
  omega
theorem Cc_c (h1 : ∀ j, 0 ≤ j → j < 2 → g (36 + 7 * j) = h (36 + 7 * j)) (h2 : τ 90 = σ 90) (k : Cc σ h) : Cc τ g := by
  intro j c j0 j1 c0 c1
  rw [h1 j j0 j1, h2]
  exact k j c j0 j1 c0 c1
theorem Ck_c (h1 : ∀ j k, 0 ≤ j → j < 2 → 0 ≤ k → k < 4 → g (38 + 7 * j + k) = h (38 + 7 * j + k)) (h2 : τ 91 = σ 91) (h3 : τ 92 = σ 92) (h4 : τ 93 = σ 93) (k : Ck σ h) : Ck τ g := by
  intro j c j0 j1 c0 c1
  rw [h1 j c j0 j1 c0 c1, h2, h3, h4]
  exact k j c j0 j1 c0 c1
theorem CE_c (h1 : ∀ e, 0 ≤ e → e < 4 → g (49 + 10 * e) = h (49 + 10 * e)) (h2 : ∀ e, 0 ≤ e → e < 4 → g (52 + 10 * e) = h (52 + 10 * e)) (a1 : τ 94 = σ 94) (a2 : τ 95 = σ 95) (a3 : τ 96 = σ 96) (a4 : τ 98 = σ 98) (a5 : τ 99 = σ 99) (a6 : τ 101 = σ 101) (a7 : τ 102 = σ 102) (a8 : τ 103 = σ 103) (a9 : τ 104 = σ 104) (a10 : τ 106 = σ 106) (a11 : τ 107 = σ 107) (k : CE σ h) : CE τ g := by
  intro e e0 e1
  rw [h1 e e0 e1, h2 e e0 e1, a1, a2, a3, a4, a5, a6, a7, a8, a9, a10, a11]
  exact k e e0 e1
theorem Cw_c (h1 : ∀ e, 0 ≤ e → e < 4 → g (50 + 10 * e) = h (50 + 10 * e)) (h2 : ∀ a, 55 ≤ a → a ≤ 88 → (a - 55) % 10 < 4 → g a = h a) (a1 : τ 96 = σ 96) (a2 : τ 97 = σ 97) (k : Cw σ h) : Cw τ g := by
  intro e e0 e1
  obtain ⟨hi, k1, k2, k3⟩ := k e e0 e1
  rw [h1 e e0 e1, a1, a2, pc_c a2]
  refine ⟨hi, k1, k2, fun i j i0 i1 j0 j1 => ?_⟩
  have := k1 i i0 (by omega)
  rw [h2 _ (by omega) (by omega) (by omega)]
  exact k3 i j i0 i1 j0 j1
theorem Cr_c (h1 : ∀ e, 0 ≤ e → e < 4 → g (51 + 10 * e) = h (51 + 10 * e)) (a1 : τ 99 = σ 99) (a2 : τ 100 = σ 100) (k : Cr σ h) : Cr τ g := by
  intro e i e0 e1
  rw [h1 e e0 e1, a1, a2]
  exact k e i e0 e1
theorem Cg_c (h1 : ∀ e, 0 ≤ e → e < 4 → g (53 + 10 * e) = h (53 + 10 * e)) (h2 : ∀ e, 0 ≤ e → e < 4 → g (54 + 10 * e) = h (54 + 10 * e)) (a1 : τ 104 = σ 104) (a2 : τ 105 = σ 105) (k : Cg σ h) : Cg τ g := by
  intro e i e0 e1
  rw [h1 e e0 e1, h2 e e0 e1, a1, a2]
  exact k e i e0 e1
theorem Cp_c (b3 : g 4 3 = h 4 3) (b4 : g 4 4 = h 4 4) (b5 : g 4 5 = h 4 5) (h1 : g 7 = h 7) (h2 : g 5 = h 5) (h3 : ∀ a, 8 ≤ a → a ≤ 31 → g a = h a) (a1 : τ 89 19 = σ 89 19) (a2 : τ 89 21 = σ 89 21) (a3 : τ 89 29 = σ 89 29) (a4 : τ 108 = σ 108) (a5 : τ 109 = σ 109) (k : Cp σ h) : Cp τ g := by
  obtain ⟨k1, hu, k2, k3, k4, k5⟩ := k
  rw [Cp, b3, b4, b5, h1, h2, a1, a2, a3, a4]
  refine ⟨k1, hu, k2, k3, k4, fun i i0 i1 => ?_⟩
  have := k3 i i0 (by omega)
  rw [PC, h3 _ this.1 this.2, a5]
  exact k5 i i0 i1
theorem Cd_c (h1 : g 35 5 = h 35 5) (h2 : g 42 5 = h 42 5) (a1 : τ 89 28 = σ 89 28) (k : Cd σ h) : Cd τ g := by
  rw [Cd, h1, h2, a1]
  exact k
theorem Cn_c (h1 : ∀ j, 0 ≤ j → j < 2 → g (35 + 7 * j) 2 = h (35 + 7 * j) 2) (h2 : ∀ j, 0 ≤ j → j < 2 → g (35 + 7 * j) 3 = h (35 + 7 * j) 3) (h3 : ∀ j, 0 ≤ j → j < 2 → g (35 + 7 * j) 4 = h (35 + 7 * j) 4) (h4 : ∀ a, 118 ≤ a → a ≤ h 0 0 → g a = h a) (h5 : h 0 0 ≤ g 0 0) (a1 : τ 110 = σ 110) (a2 : τ 111 = σ 111) (a3 : τ 112 = σ 112) (k : Cn σ h) : Cn τ g := by
  intro j j0 j1
  obtain ⟨k1, A, k2, k3, k4, k5⟩ := k j j0 j1
  rw [h3 j j0 j1, a2, a3]
  refine ⟨k1, A, ?_⟩
  rw [Ch, h1 j j0 j1, h2 j j0 j1, a1, a2, a3]
  refine ⟨fun i i0 i1 => ?_, k3, k4, k5⟩
  obtain ⟨p1, p2⟩ := k2 i i0 i1
  rw [h4 _ p1.1 p1.2]
  exact ⟨⟨p1.1, by omega⟩, p2⟩
theorem Cl_c (h1 : g 1 4 = h 1 4) (h2 : g 1 5 = h 1 5) (h4 : ∀ a, 118 ≤ a → a ≤ h 0 0 → ∀ k, k < 5 → g a k = h a k) (h5 : h 0 0 ≤ g 0 0) (a1 : τ 89 27 = σ 89 27) (a2 : τ 113 = σ 113) (k : Cl σ h) : Cl τ g := by
  obtain ⟨k1, k2⟩ := k
  rw [Cl, h1, h2, a1, a2]
  refine ⟨k1, fun hn => ?_⟩
  obtain ⟨p1, p2, p3, p4⟩ := k2 hn
  refine ⟨⟨p1.1, by omega⟩, ?_, p3, fun i i0 i1 => ?_⟩
  · rw [h4 _ p1.1 p1.2 _ (by decide)]
    exact p2
  · rw [h4 _ p1.1 p1.2 _ i1]
    exact p4 i i0 i1
theorem Cx_c (h1 : g 32 2 = h 32 2) (h2 : g 33 = h 33) (a1 : τ 89 31 = σ 89 31) (a2 : τ 114 = σ 114) (k : Cx σ h) : Cx τ g := by
  rw [Cx, h1, h2, a1, a2]
  exact k
end CN
