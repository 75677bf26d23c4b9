/-! the law: call by call -/
theorem mg_eq {g σ : Hp} (h : ∀ a, 89 ≤ a → a ≤ 117 → g a = σ a) : mg g σ = g := by
  funext a
  unfold mg
  split
  · rename_i q
    exact (h a q.1 q.2).symm
  · rfl
theorem Rmg {G : GG} {M : MT} {as : List VV} {g σ : Hp} {Q : Option VV → Hp → Prop} (e : mg g σ = g) (k : Runs G M as (mg g σ) Q) : Runs G M as g Q := by
  rw [e] at k
  exact k
theorem cr_mg {ρ τ g : Hp} {n : Int} (hC : CR ρ n τ g) : CR (mg g τ) n τ (mg g τ) := by
  have off : ∀ a, a < 89 ∨ 117 < a → mg g τ a = g a := fun a ha => mg_out ha
  refine ⟨⟨⟨fun _ _ _ => rfl, rfl, fun _ _ => rfl⟩, rfl⟩, CT_of hC.T (fun b y b1 b2 hb => by rw [off b (by omega)]), CB_c (Int.le_refl _) (by rw [off _ (by omega)]) rfl rfl hC.b, Cc_c (fun j j0 j1 => off _ (by omega)) rfl hC.c, Ck_c (fun j k j0 j1 k0 k1 => off _ (by omega)) rfl rfl rfl hC.k, CE_c (fun j j0 j1 => off _ (by omega)) (fun j j0 j1 => off _ (by omega)) rfl rfl rfl rfl rfl rfl rfl rfl rfl rfl rfl hC.e, Cw_c (fun j j0 j1 => off _ (by omega)) (fun a a0 a1 _ => off _ (by omega)) rfl rfl hC.w, Cr_c (fun j j0 j1 => off _ (by omega)) rfl rfl hC.r, Cg_c (fun j j0 j1 => off _ (by omega)) (fun j j0 j1 => off _ (by omega)) rfl rfl hC.g, Cp_c (by rw [off _ (by omega)]) (by rw [off _ (by omega)]) (by rw [off _ (by omega)]) (off _ (by omega)) (off _ (by omega)) (fun a a0 a1 => off _ (by omega)) rfl rfl rfl rfl rfl hC.p, Cd_c (by rw [off _ (by omega)]) (by rw [off _ (by omega)]) rfl hC.d, Cn_c (fun j j0 j1 => by rw [off _ (by omega)]) (fun j j0 j1 => by rw [off _ (by omega)]) (fun j j0 j1 => by rw [off _ (by omega)]) (fun a a0 a1 => off _ (by omega)) (by rw [off 0 (by omega)]; omega) rfl rfl rfl hC.n, Cl_c (by rw [off _ (by omega)]) (by rw [off _ (by omega)]) (fun a a0 a1 k k1 => by rw [off _ (by omega)]) (by rw [off 0 (by omega)]; omega) rfl rfl hC.l, Cx_c (by rw [off _ (by omega)]) (off _ (by omega)) rfl rfl hC.x⟩
section LW
variable {G : GG} {Z : LZ}
set_option maxHeartbeats 16000000 in
theorem L_law (hN : G.2.2.2.2.2.1 ≤ 3072) (hend : ∀ (b : Nat × Nat) (i : Int) (h : Hp), AZ G mm_L_law b 1004 [(0, vR (-1)), (1, vR 1), (2, vR 89), (3, vI i)] [vI 1] h Z) : ∀ (k : Nat) (n m : Int) (b : Nat × Nat) (σ h : Hp), n + k = 512 → 0 ≤ n → CR h n σ h → (∀ a, 89 ≤ a → a ≤ 117 → h a = σ a) → IV σ n m → m ≤ 40 * n → 12 * k ≤ b.1 → 72 * k ≤ b.2 → AZ G mm_L_law b 18 [(0, vR (-1)), (1, vR 1), (2, vR 89), (3, vI (6 * n))] [] h Z := by
  have hS : sL G ≤ 3072 := by
    show ((G.2.2.2.2.2.1 : Nat) : Int) ≤ 3072
    omega
  have hS0 : 0 ≤ sL G := by
    show 0 ≤ ((G.2.2.2.2.2.1 : Nat) : Int)
    omega
  intro k
  induction k with
  | zero =>
    intro n m b σ h hn n0 hC hrow hI hm hb1 hb2
    refine sg_L_law_18 ⟨by omega, by unfold inI; omega, fun _ => hend b _ h, fun q => by omega⟩
  | succ k ih =>
    intro n m b σ h hn n0 hC hrow hI hm hb1 hb2
    have FIN : ∀ (b' : Nat × Nat) (ρ' τ g : Hp), CR ρ' (n + 1) τ g → IV τ (n + 1) (m + 40) → 12 * k ≤ b'.1 → 72 * k ≤ b'.2 → AZ G mm_L_law b' 18 [(0, vR (-1)), (1, vR 1), (2, vR 89), (3, vI (6 * n + 6))] [] (mg g τ) Z := fun b' ρ' τ g hg hI' h1 h2 => by
      rw [show 6 * n + 6 = 6 * (n + 1) by omega]
      exact ih (n + 1) (m + 40) b' τ (mg g τ) (by omega) (by omega) (cr_mg hg) (fun a a0 a1 => mg_in a0 a1) hI' (by omega) h1 h2
    refine sg_L_law_18 ⟨by omega, by unfold inI; omega, fun _ => hend b _ h, fun q => ?_⟩
    have hn1 : n ≤ 511 := by omega
    have hm1 : m ≤ 99900 := by omega
    have EG : ∀ ρ' τ g, CR ρ' (n + 1) τ g → (∀ a, 89 ≤ a → a ≤ 117 → ρ' a = h a) → mg g σ = g := fun ρ' τ g hg hρ => mg_eq (fun a a0 a1 => by rw [hg.o.1.1 a a0 a1, hρ a a0 a1]; exact hrow a a0 a1)
    have S11 : ∀ g, mg g σ = g → g 89 (-1) = 11 := fun g eg => by
      rw [← eg, mg_in (by decide) (by decide)]
      exact hI.s.1
    have hx1 := hC.T.1.1
    refine ⟨by omega, by omega, ?_, ?_, ?_, ?_, ?_, ?_, ?_, ?_, ?_, ?_, ?_, ?_, ?_, ?_, ?_, ?_, ?_, ?_, ?_, ?_, ?_, ?_, ?_, ?_, ?_, ?_, ?_, ?_⟩
    · intro q
      refine ⟨by unfold inI; omega, by omega, by omega, hx1, ?_⟩
      refine K_write hC hI (fun ρ' g hρ hg => ?_)
      have eg := EG ρ' _ g hg hρ
      refine sg_L_law_165 ⟨by unfold inI; omega, by omega, by omega, S11 g eg, ?_⟩
      refine Rmg eg (R_write hI ?_)
      refine sg_L_law_174 ⟨fun _ => ⟨by unfold inI; omega, ?_⟩, fun z => absurd rfl z⟩
      exact FIN b ρ' _ g hg (ip_write hI hn1 hm1) (by omega) (by omega)
    · intro q
      refine ⟨hx1, ?_⟩
      refine K_erase hC hI (fun ρ' g hρ hg => ?_)
      have eg := EG ρ' _ g hg hρ
      refine sg_L_law_183 ⟨S11 g eg, ?_⟩
      refine Rmg eg (R_erase hI ?_)
      refine sg_L_law_187 ⟨fun _ => ⟨by unfold inI; omega, ?_⟩, fun z => absurd rfl z⟩
      exact FIN b ρ' _ g hg (ip_erase hI hn1 hm1) (by omega) (by omega)
    · intro q
      refine ⟨hx1, ?_⟩
      refine K_fault hC hI (fun ρ' g hρ hg => ?_)
      have eg := EG ρ' _ g hg hρ
      refine sg_L_law_196 ⟨S11 g eg, ?_⟩
      refine Rmg eg (R_fault hI ?_)
      refine sg_L_law_200 ⟨fun _ => ⟨by unfold inI; omega, ?_⟩, fun z => absurd rfl z⟩
      exact FIN b ρ' _ g hg (ip_fault hI hn1 hm1) (by omega) (by omega)
    · intro q
      refine ⟨hx1, ?_⟩
      refine K_tell hC hI (fun ρ' g hρ hg => ?_)
      have eg := EG ρ' _ g hg hρ
      refine sg_L_law_209 ⟨S11 g eg, ?_⟩
      refine Rmg eg (R_tell hI ?_)
      refine sg_L_law_213 ⟨fun _ => ⟨by unfold inI; omega, ?_⟩, fun z => absurd rfl z⟩
      exact FIN b ρ' _ g hg (ip_tell hI hn1 hm1) (by omega) (by omega)
    · intro q
      refine ⟨by unfold inI; omega, by omega, by omega, by unfold inI; omega, by omega, by omega, hx1, ?_⟩
      refine K_cell hC hI (fun ρ' g hρ hg => ?_)
      have eg := EG ρ' _ g hg hρ
      refine sg_L_law_232 ⟨by unfold inI; omega, by omega, by omega, by unfold inI; omega, by omega, by omega, S11 g eg, ?_⟩
      refine Rmg eg (R_cell hI ?_)
      refine sg_L_law_246 ⟨fun _ => ⟨by unfold inI; omega, ?_⟩, fun z => absurd rfl z⟩
      exact FIN b ρ' _ g hg (ip_cell hI hn1 hm1) (by omega) (by omega)
    · intro q
      refine ⟨by unfold inI; omega, by omega, by omega, by unfold inI; omega, by omega, by omega, by unfold inI; omega, by omega, by omega, hx1, ?_⟩
      refine K_put hC hI (fun ρ' g hρ hg => ?_)
      have eg := EG ρ' _ g hg hρ
      refine sg_L_law_270 ⟨by unfold inI; omega, by omega, by omega, by unfold inI; omega, by omega, by omega, by unfold inI; omega, by omega, by omega, S11 g eg, ?_⟩
      refine Rmg eg (R_put hI ?_)
      refine sg_L_law_289 ⟨fun _ => ⟨by unfold inI; omega, ?_⟩, fun z => absurd rfl z⟩
      exact FIN b ρ' _ g hg (ip_put hI hn1 hm1) (by omega) (by omega)
    · intro q
      refine ⟨by unfold inI; omega, by omega, by omega, by unfold inI; omega, by omega, by omega, by unfold inI; omega, by omega, by omega, by unfold inI; omega, by omega, by omega, by unfold inI; omega, by omega, by omega, hx1, ?_⟩
      refine K_key hC hI (fun ρ' g hρ hg => ?_)
      have eg := EG ρ' _ g hg hρ
      refine sg_L_law_323 ⟨by unfold inI; omega, by omega, by omega, by unfold inI; omega, by omega, by omega, by unfold inI; omega, by omega, by omega, by unfold inI; omega, by omega, by omega, by unfold inI; omega, by omega, by omega, S11 g eg, ?_⟩
      refine Rmg eg (R_key hI ?_)
      refine sg_L_law_352 ⟨fun _ => ⟨by unfold inI; omega, ?_⟩, fun z => absurd rfl z⟩
      exact FIN b ρ' _ g hg (ip_key hI hn1 hm1) (by omega) (by omega)
    · intro q
      refine ⟨by unfold inI; omega, by omega, by omega, by unfold inI; omega, by omega, by omega, hx1, ?_⟩
      refine K_lock hC hI (fun ρ' g hρ hg => ?_)
      have eg := EG ρ' _ g hg hρ
      refine sg_L_law_371 ⟨by unfold inI; omega, by omega, by omega, by unfold inI; omega, by omega, by omega, S11 g eg, ?_⟩
      refine Rmg eg (R_lock hI ?_)
      refine sg_L_law_385 ⟨fun _ => ⟨by unfold inI; omega, ?_⟩, fun z => absurd rfl z⟩
      exact FIN b ρ' _ g hg (ip_lock hI hn1 hm1) (by omega) (by omega)
    · intro q
      refine ⟨by unfold inI; omega, by omega, by omega, by unfold inI; omega, by omega, by omega, by unfold inI; omega, by omega, by omega, hx1, ?_⟩
      refine K_door hC hI (fun ρ' g hρ hg => ?_)
      have eg := EG ρ' _ g hg hρ
      refine sg_L_law_409 ⟨by unfold inI; omega, by omega, by omega, by unfold inI; omega, by omega, by omega, by unfold inI; omega, by omega, by omega, S11 g eg, ?_⟩
      refine Rmg eg (R_door hI ?_)
      refine sg_L_law_428 ⟨fun _ => ⟨by unfold inI; omega, ?_⟩, fun z => absurd rfl z⟩
      exact FIN b ρ' _ g hg (ip_door hI hn1 hm1) (by omega) (by omega)
    · intro q
      refine ⟨by unfold inI; omega, by omega, by omega, hx1, ?_⟩
      refine K_join hC hI (fun ρ' g hρ hg => ?_)
      have eg := EG ρ' _ g hg hρ
      refine sg_L_law_442 ⟨by unfold inI; omega, by omega, by omega, S11 g eg, ?_⟩
      refine Rmg eg (R_join hI ?_)
      refine sg_L_law_451 ⟨fun _ => ⟨by unfold inI; omega, ?_⟩, fun z => absurd rfl z⟩
      exact FIN b ρ' _ g hg (ip_join hI hn1 hm1) (by omega) (by omega)
    · intro q
      refine ⟨by unfold inI; omega, by omega, by omega, by omega, by omega, hx1, ?_⟩
      refine K_tear hC hI (by omega) (fun ρ' g hρ hg => ?_)
      have eg := EG ρ' _ g hg hρ
      refine sg_L_law_465 ⟨by unfold inI; omega, by omega, by omega, S11 g eg, ?_⟩
      refine Rmg eg (R_tear hI ?_)
      refine sg_L_law_474 ⟨fun _ => ⟨by unfold inI; omega, ?_⟩, fun z => absurd rfl z⟩
      exact FIN (b.1 - 7, b.2 - 42) ρ' _ g hg (ip_tear hI hn1 hm1) (by show 12 * k ≤ b.1 - 7; omega) (by show 72 * k ≤ b.2 - 42; omega)
    · intro q
      refine ⟨by unfold inI; omega, by omega, by omega, by unfold inI; omega, by omega, by omega, hx1, ?_⟩
      refine K_delay hC hI (fun ρ' g hρ hg => ?_)
      have eg := EG ρ' _ g hg hρ
      refine sg_L_law_493 ⟨by unfold inI; omega, by omega, by omega, by unfold inI; omega, by omega, by omega, S11 g eg, ?_⟩
      refine Rmg eg (R_delay hI ?_)
      refine sg_L_law_507 ⟨fun _ => ⟨by unfold inI; omega, ?_⟩, fun z => absurd rfl z⟩
      exact FIN b ρ' _ g hg (ip_delay hI hn1 hm1) (by omega) (by omega)
    · intro q
      refine ⟨by unfold inI; omega, by omega, by omega, by unfold inI; omega, by omega, by omega, by unfold inI; omega, by omega, by omega, hx1, ?_⟩
      refine K_aim hC hI (fun ρ' g hρ hg => ?_)
      have eg := EG ρ' _ g hg hρ
      refine sg_L_law_531 ⟨by unfold inI; omega, by omega, by omega, by unfold inI; omega, by omega, by omega, by unfold inI; omega, by omega, by omega, S11 g eg, ?_⟩
      refine Rmg eg (R_aim hI ?_)
      refine sg_L_law_550 ⟨fun _ => ⟨by unfold inI; omega, ?_⟩, fun z => absurd rfl z⟩
      exact FIN b ρ' _ g hg (ip_aim hI hn1 hm1) (by omega) (by omega)
    · intro q
      refine ⟨by unfold inI; omega, by omega, by omega, by unfold inI; omega, by omega, by omega, hx1, ?_⟩
      refine K_send hC hI hn1 (fun ρ' g hρ hg => ?_)
      have eg := EG ρ' _ g hg hρ
      refine sg_L_law_569 ⟨by unfold inI; omega, by omega, by omega, by unfold inI; omega, by omega, by omega, S11 g eg, ?_⟩
      refine Rmg eg (R_send hI hm1 ?_)
      refine sg_L_law_583 ⟨fun _ => ⟨by unfold inI; omega, ?_⟩, fun z => absurd rfl z⟩
      exact FIN b ρ' _ g hg (ip_send hI hn1 hm1) (by omega) (by omega)
    · intro q
      refine ⟨by unfold inI; omega, by omega, by omega, by unfold inI; omega, by omega, by omega, hx1, ?_⟩
      refine K_store hC hI hn1 (fun ρ' g hρ hg => ?_)
      have eg := EG ρ' _ g hg hρ
      refine sg_L_law_602 ⟨by unfold inI; omega, by omega, by omega, by unfold inI; omega, by omega, by omega, S11 g eg, ?_⟩
      refine Rmg eg (R_store hI hm1 ?_)
      refine sg_L_law_616 ⟨fun _ => ⟨by unfold inI; omega, ?_⟩, fun z => absurd rfl z⟩
      exact FIN b ρ' _ g hg (ip_store hI hn1 hm1) (by omega) (by omega)
    · intro q
      refine ⟨by unfold inI; omega, by omega, by omega, by unfold inI; omega, by omega, by omega, hx1, ?_⟩
      refine K_read hC hI hn1 (fun ρ' g hρ hg => ?_)
      have eg := EG ρ' _ g hg hρ
      refine sg_L_law_635 ⟨by unfold inI; omega, by omega, by omega, by unfold inI; omega, by omega, by omega, S11 g eg, ?_⟩
      refine Rmg eg (R_read hI hm1 ?_)
      refine sg_L_law_649 ⟨fun _ => ⟨by unfold inI; omega, ?_⟩, fun z => absurd rfl z⟩
      exact FIN b ρ' _ g hg (ip_read hI hn1 hm1) (by omega) (by omega)
    · intro q
      refine ⟨by unfold inI; omega, by omega, by omega, by unfold inI; omega, by omega, by omega, by unfold inI; omega, by omega, by omega, hx1, ?_⟩
      refine K_add hC hI hn1 (fun ρ' g hρ hg => ?_)
      have eg := EG ρ' _ g hg hρ
      refine sg_L_law_673 ⟨by unfold inI; omega, by omega, by omega, by unfold inI; omega, by omega, by omega, by unfold inI; omega, by omega, by omega, S11 g eg, ?_⟩
      refine Rmg eg (R_add hI hm1 ?_)
      refine sg_L_law_692 ⟨fun _ => ⟨by unfold inI; omega, ?_⟩, fun z => absurd rfl z⟩
      exact FIN b ρ' _ g hg (ip_add hI hn1 hm1) (by omega) (by omega)
    · intro q
      refine ⟨by unfold inI; omega, by omega, by omega, by unfold inI; omega, by omega, by omega, by unfold inI; omega, by omega, by omega, by unfold inI; omega, by omega, by omega, hx1, ?_⟩
      refine K_swap hC hI hn1 (fun ρ' g hρ hg => ?_)
      have eg := EG ρ' _ g hg hρ
      refine sg_L_law_721 ⟨by unfold inI; omega, by omega, by omega, by unfold inI; omega, by omega, by omega, by unfold inI; omega, by omega, by omega, by unfold inI; omega, by omega, by omega, S11 g eg, ?_⟩
      refine Rmg eg (R_swap hI hm1 ?_)
      refine sg_L_law_745 ⟨fun _ => ⟨by unfold inI; omega, ?_⟩, fun z => absurd rfl z⟩
      exact FIN b ρ' _ g hg (ip_swap hI hn1 hm1) (by omega) (by omega)
    · intro q
      refine ⟨by unfold inI; omega, by omega, by omega, by unfold inI; omega, by omega, by omega, hx1, ?_⟩
      refine K_receive hC hI (fun ρ' g hρ hg => ?_)
      have eg := EG ρ' _ g hg hρ
      refine sg_L_law_764 ⟨by unfold inI; omega, by omega, by omega, by unfold inI; omega, by omega, by omega, S11 g eg, ?_⟩
      refine Rmg eg (R_receive hI ?_)
      refine sg_L_law_778 ⟨fun _ => ⟨by unfold inI; omega, ?_⟩, fun z => absurd rfl z⟩
      exact FIN b ρ' _ g hg (ip_receive hI hn1 hm1) (by omega) (by omega)
    · intro q
      refine ⟨by unfold inI; omega, by omega, by omega, by omega, by omega, hx1, ?_⟩
      refine K_step2 hC hI hn1 hm1 (by omega) (fun ρ' g hρ hg => ?_)
      have eg := EG ρ' _ g hg hρ
      refine sg_L_law_792 ⟨by unfold inI; omega, by omega, by omega, S11 g eg, ?_⟩
      refine Rmg eg (R_step hI hn1 hm1 ?_)
      refine sg_L_law_801 ⟨fun _ => ⟨by unfold inI; omega, ?_⟩, fun z => absurd rfl z⟩
      exact FIN (b.1 - 12, b.2 - 72) ρ' _ g hg (ip_step hI hn1 hm1) (by show 12 * k ≤ b.1 - 12; omega) (by show 72 * k ≤ b.2 - 72; omega)
    · intro q
      refine ⟨by unfold inI; omega, by omega, by omega, by omega, by omega, hx1, ?_⟩
      refine K_tick hC hI (by omega) (by omega) (fun ρ' g hρ hg => ?_)
      have eg := EG ρ' _ g hg hρ
      refine sg_L_law_815 ⟨by unfold inI; omega, by omega, by omega, S11 g eg, ?_⟩
      refine Rmg eg (R_tick hI hm1 ?_)
      refine sg_L_law_824 ⟨fun _ => ⟨by unfold inI; omega, ?_⟩, fun z => absurd rfl z⟩
      exact FIN (b.1 - 8, b.2 - 48) ρ' _ g hg (ip_tick hI hn1 hm1) (by show 12 * k ≤ b.1 - 8; omega) (by show 72 * k ≤ b.2 - 48; omega)
    · intro q
      refine ⟨by unfold inI; omega, by omega, by omega, hx1, ?_⟩
      refine K_take hC hI (fun ρ' g hρ hg => ?_)
      have eg := EG ρ' _ g hg hρ
      refine sg_L_law_838 ⟨by unfold inI; omega, by omega, by omega, S11 g eg, ?_⟩
      refine Rmg eg (R_take hI ?_)
      refine sg_L_law_847 ⟨fun _ => ⟨by unfold inI; omega, ?_⟩, fun z => absurd rfl z⟩
      exact FIN b ρ' _ g hg (ip_take hI hn1 hm1) (by omega) (by omega)
    · intro q
      refine ⟨by unfold inI; omega, by omega, by omega, hx1, ?_⟩
      refine K_taken hC hI (fun ρ' g hρ hg => ?_)
      have eg := EG ρ' _ g hg hρ
      refine sg_L_law_861 ⟨by unfold inI; omega, by omega, by omega, S11 g eg, ?_⟩
      refine Rmg eg (R_taken hI ?_)
      refine sg_L_law_870 ⟨fun _ => ⟨by unfold inI; omega, ?_⟩, fun z => absurd rfl z⟩
      exact FIN b ρ' _ g hg (ip_taken hI hn1 hm1) (by omega) (by omega)
    · intro q
      refine ⟨by unfold inI; omega, by omega, by omega, by unfold inI; omega, by omega, by omega, hx1, ?_⟩
      refine K_end hC hI (fun ρ' g hρ hg => ?_)
      have eg := EG ρ' _ g hg hρ
      refine sg_L_law_889 ⟨by unfold inI; omega, by omega, by omega, by unfold inI; omega, by omega, by omega, S11 g eg, ?_⟩
      refine Rmg eg (R_end hI ?_)
      refine sg_L_law_903 ⟨fun _ => ⟨by unfold inI; omega, ?_⟩, fun z => absurd rfl z⟩
      exact FIN b ρ' _ g hg (ip_end hI hn1 hm1) (by omega) (by omega)
    · intro q
      refine ⟨by unfold inI; omega, by omega, by omega, by unfold inI; omega, by omega, by omega, by unfold inI; omega, by omega, by omega, hx1, ?_⟩
      refine K_open hC hI (fun ρ' g hρ hg => ?_)
      have eg := EG ρ' _ g hg hρ
      refine sg_L_law_927 ⟨by unfold inI; omega, by omega, by omega, by unfold inI; omega, by omega, by omega, by unfold inI; omega, by omega, by omega, S11 g eg, ?_⟩
      refine Rmg eg (R_open hI ?_)
      refine sg_L_law_946 ⟨fun _ => ⟨by unfold inI; omega, ?_⟩, fun z => absurd rfl z⟩
      exact FIN b ρ' _ g hg (ip_open hI hn1 hm1) (by omega) (by omega)
    · intro q
      refine ⟨by unfold inI; omega, by omega, by omega, hx1, ?_⟩
      refine K_packet hC hI (fun ρ' g hρ hg => ?_)
      have eg := EG ρ' _ g hg hρ
      refine sg_L_law_960 ⟨by unfold inI; omega, by omega, by omega, S11 g eg, ?_⟩
      refine Rmg eg (R_packet hI ?_)
      refine sg_L_law_969 ⟨fun _ => ⟨by unfold inI; omega, ?_⟩, fun z => absurd rfl z⟩
      exact FIN b ρ' _ g hg (ip_packet hI hn1 hm1) (by omega) (by omega)
    · intro q
      refine ⟨by unfold inI; omega, by omega, by omega, hx1, ?_⟩
      refine K_count hC hI (fun ρ' g hρ hg => ?_)
      have eg := EG ρ' _ g hg hρ
      refine sg_L_law_983 ⟨by unfold inI; omega, by omega, by omega, S11 g eg, ?_⟩
      refine Rmg eg (R_count hI ?_)
      refine sg_L_law_992 ⟨fun _ => ⟨by unfold inI; omega, ?_⟩, fun z => absurd rfl z⟩
      exact FIN b ρ' _ g hg (ip_count hI hn1 hm1) (by omega) (by omega)
    · intro q
      refine ⟨by unfold inI; omega, ?_⟩
      rw [show 6 * n + 6 = 6 * (n + 1) by omega]
      exact ih (n + 1) m b σ h (by omega) (by omega) (hC.up (by omega)) hrow (hI.up (by omega) (by omega) (by omega) (by omega)) (by omega) (by omega) (by omega)
end LW
