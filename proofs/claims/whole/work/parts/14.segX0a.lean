/-! printed by writeseg.py: segments of methods -/
set_option maxRecDepth 20000 in
theorem sg_X0_init_0 {G : GG} {b : Nat × Nat} {Q : Option VV → Hp → Prop} {v0 : Int} {h : Hp} (k : (h v0 (-1) = 1) ∧ (inI (h 0 0 + 1)) ∧ (1 ≤ b.1) ∧ (2 ≤ b.2) ∧ ∀ a7, a7 = h 0 0 + 1 → ∀ h1, h1 = nw h 20 2 → ∀ h2, h2 = wr h1 v0 0 a7 → (inI (h2 0 0 + 1)) ∧ (1 ≤ b.1 - 1) ∧ (2 ≤ b.2 - 2) ∧ ∀ a17, a17 = h2 0 0 + 1 → ∀ h3, h3 = nw h2 20 2 → ∀ h4, h4 = wr h3 v0 1 a17 → ∀ h5, h5 = wr h4 v0 2 0 → Q none h5) : AW G mm_X0_init b 0 [(0, vR v0)] [] h Q := by
  refine aw_aload_n 0 dX0_init_0 rfl rfl ?_
  obtain ⟨o1, k⟩ := k
  refine aw_use (fun _ _ oz2 => ?_)
  refine aw_obj lo_X0_3 dX0_init_1 (nz_s oz2 o1 (by decide)) ⟨by decide, Nat.le_of_ble_eq_true rfl⟩ ?_
  refine aw_aload_n 0 dX0_init_4 rfl rfl ?_
  refine aw_iconst dX0_init_5 ⟨by decide, by decide⟩ ?_
  refine aw_use (fun _ _ oh3 => ?_)
  obtain ⟨o4, k⟩ := k
  obtain ⟨o5, k⟩ := k
  obtain ⟨o6, k⟩ := k
  refine aw_newa na_int dX0_init_6 (by decide) (by decide) o4 o5 o6 ?_
  refine aw_hq (fun a7 e8 h1 e9 => ?_)
  have k := k a7 e8 h1 e9
  have q10 := sh_f e9 e8
  have q11 := sh_n e9 oh3 o1 (by decide)
  refine aw_putR dX0_init_8 fl_X0_9 (fun q hq _ => by cases hq; exact ⟨rfl, rfl⟩) rfl rfl q11 ?_
  refine aw_hp (fun h2 e12 => ?_)
  have k := k h2 e12
  refine aw_aload_n 0 dX0_init_11 rfl rfl ?_
  refine aw_iconst dX0_init_12 ⟨by decide, by decide⟩ ?_
  refine aw_use (fun _ _ oh13 => ?_)
  obtain ⟨o14, k⟩ := k
  obtain ⟨o15, k⟩ := k
  obtain ⟨o16, k⟩ := k
  refine aw_newa na_int dX0_init_13 (by decide) (by decide) o14 o15 o16 ?_
  refine aw_hq (fun a17 e18 h3 e19 => ?_)
  have k := k a17 e18 h3 e19
  have q20 := sh_f e19 e18
  have q21 := sh_w e12 (by decide) q11
  have q22 := sh_n e19 oh13 q21 (by decide)
  refine aw_putR dX0_init_15 fl_X0_15 (fun q hq _ => by cases hq; exact ⟨rfl, rfl⟩) rfl rfl q22 ?_
  refine aw_hp (fun h4 e23 => ?_)
  have k := k h4 e23
  refine aw_aload_n 0 dX0_init_18 rfl rfl ?_
  refine aw_iconst dX0_init_19 ⟨by decide, by decide⟩ ?_
  have q24 := sh_w e23 (by decide) q22
  refine aw_putI dX0_init_20 fl_X0_18 (fun q hq hf => by cases hq; cases hf) rfl rfl q24 ?_
  refine aw_hp (fun h5 e25 => ?_)
  have k := k h5 e25
  exact aw_vret dX0_init_23 rfl k
theorem rn_X0_init {G : GG} {Q : Option VV → Hp → Prop} {v0 : Int} {h : Hp} (k : (h v0 (-1) = 1) ∧ (inI (h 0 0 + 1)) ∧ (1 ≤ 2) ∧ (2 ≤ 4) ∧ ∀ a7, a7 = h 0 0 + 1 → ∀ h1, h1 = nw h 20 2 → ∀ h2, h2 = wr h1 v0 0 a7 → (inI (h2 0 0 + 1)) ∧ (1 ≤ 2 - 1) ∧ (2 ≤ 4 - 2) ∧ ∀ a17, a17 = h2 0 0 + 1 → ∀ h3, h3 = nw h2 20 2 → ∀ h4, h4 = wr h3 v0 1 a17 → ∀ h5, h5 = wr h4 v0 2 0 → Q none h5) : Runs G mm_X0_init [vR v0] h Q := Runs.of (by decide +kernel) (Nat.le_of_ble_eq_true rfl) (sg_X0_init_0 (b := (2, 4)) k)
set_option maxRecDepth 20000 in
theorem sg_X0_remember_0 {G : GG} {b : Nat × Nat} {Q : Option VV → Hp → Prop} {v0 v1 v2 : Int} {h : Hp} (k : (h v0 (-1) = 1) ∧ ((¬ (h v0 2) = 2) → (h (h v0 0) (-1) = 20) ∧ (0 ≤ (h v0 2)) ∧ ((h v0 2) < h (h v0 0) (-2)) ∧ ∀ h1, h1 = wr h (h v0 0) (h v0 2) v1 → (h (h v0 1) (-1) = 20) ∧ ((h v0 2) < h (h v0 1) (-2)) ∧ ∀ h2, h2 = wr h1 (h v0 1) (h v0 2) v2 → (inI ((h v0 2) + 1)) ∧ ∀ h3, h3 = wr h2 v0 2 ((h v0 2) + 1) → Q none h3) ∧ (((h v0 2) = 2) → AW G mm_X0_remember b 10 [(0, vR v0), (1, vI v1), (2, vI v2), (3, vI 1)] [] h Q)) : AW G mm_X0_remember b 0 [(0, vR v0), (1, vI v1), (2, vI v2)] [] h Q := by
  refine aw_aload_n 0 dX0_remember_0 rfl rfl ?_
  obtain ⟨o1, k⟩ := k
  refine aw_getI dX0_remember_1 fl_X0_18 rfl o1 (x := (h v0 2)) rfl ?_
  refine aw_iconst dX0_remember_4 ⟨by decide, by decide⟩ ?_
  refine aw_icmp_ne (tgt := 59) dX0_remember_5 (by decide) (fun hc => ?_) (fun hc => ?_)
  · have k := k.1 hc
    refine aw_aload_n 0 dX0_remember_59 rfl rfl ?_
    refine aw_getR dX0_remember_60 fl_X0_9 rfl o1 (x := (h v0 0)) rfl ?_
    refine aw_aload_n 0 dX0_remember_63 rfl rfl ?_
    refine aw_getI dX0_remember_64 fl_X0_18 rfl o1 (x := (h v0 2)) rfl ?_
    refine aw_iload_n 1 dX0_remember_67 rfl rfl ?_
    obtain ⟨o2, k⟩ := k
    obtain ⟨o3, k⟩ := k
    obtain ⟨o4, k⟩ := k
    refine aw_iast dX0_remember_68 o2 o3 o4 ?_
    refine aw_hp (fun h1 e5 => ?_)
    have k := k h1 e5
    refine aw_aload_n 0 dX0_remember_69 rfl rfl ?_
    have q6 := sh_w e5 o3 o1
    refine aw_getR dX0_remember_70 fl_X0_15 rfl q6 (x := (h v0 1)) (rd_a e5 v0 1 (ne_sh o2 o1 (by decide))) ?_
    refine aw_aload_n 0 dX0_remember_73 rfl rfl ?_
    refine aw_getI dX0_remember_74 fl_X0_18 rfl q6 (x := (h v0 2)) (rd_a e5 v0 2 (ne_sh o2 o1 (by decide))) ?_
    refine aw_iload_n 2 dX0_remember_77 rfl rfl ?_
    obtain ⟨o7, k⟩ := k
    obtain ⟨o8, k⟩ := k
    have q9 := sh_w e5 o3 o7
    refine aw_iast dX0_remember_78 q9 o3 (lt_l (ln_w e5 (h v0 1) o3) o8) ?_
    refine aw_hp (fun h2 e10 => ?_)
    have k := k h2 e10
    refine aw_aload_n 0 dX0_remember_79 rfl rfl ?_
    refine aw_dup dX0_remember_80 rfl ?_
    have q11 := sh_w e10 o3 q6
    refine aw_getI dX0_remember_81 fl_X0_18 rfl q11 (x := (h v0 2)) ((rd_a e10 v0 2 (ne_sh q9 q6 (by decide))).trans (rd_a e5 v0 2 (ne_sh o2 o1 (by decide)))) ?_
    refine aw_iconst dX0_remember_84 ⟨by decide, by decide⟩ ?_
    obtain ⟨o12, k⟩ := k
    refine aw_iadd dX0_remember_85 o12 ?_
    refine aw_putI dX0_remember_86 fl_X0_18 (fun q hq hf => by cases hq; cases hf) rfl rfl q11 ?_
    refine aw_hp (fun h3 e13 => ?_)
    have k := k h3 e13
    exact aw_vret dX0_remember_89 rfl k
  · have k := k.2 hc
    refine aw_iconst dX0_remember_8 ⟨by decide, by decide⟩ ?_
    refine aw_istore_n dX0_remember_9 rfl (by decide) ?_
    exact aw_sub [1, 2, 3, 0] rfl k
theorem rn_X0_remember {G : GG} {Q : Option VV → Hp → Prop} {v0 v1 v2 : Int} {h : Hp} (k : (h v0 (-1) = 1) ∧ ((¬ (h v0 2) = 2) → (h (h v0 0) (-1) = 20) ∧ (0 ≤ (h v0 2)) ∧ ((h v0 2) < h (h v0 0) (-2)) ∧ ∀ h1, h1 = wr h (h v0 0) (h v0 2) v1 → (h (h v0 1) (-1) = 20) ∧ ((h v0 2) < h (h v0 1) (-2)) ∧ ∀ h2, h2 = wr h1 (h v0 1) (h v0 2) v2 → (inI ((h v0 2) + 1)) ∧ ∀ h3, h3 = wr h2 v0 2 ((h v0 2) + 1) → Q none h3) ∧ (((h v0 2) = 2) → AW G mm_X0_remember (0, 0) 10 [(0, vR v0), (1, vI v1), (2, vI v2), (3, vI 1)] [] h Q)) : Runs G mm_X0_remember [vR v0, vI v1, vI v2] h Q := Runs.of (by decide +kernel) (Nat.le_of_ble_eq_true rfl) (sg_X0_remember_0 (b := (0, 0)) k)
set_option maxRecDepth 20000 in
theorem sg_X0_remember_10 {G : GG} {b : Nat × Nat} {Q : Option VV → Hp → Prop} {v0 v1 v2 v3 : Int} {h : Hp} (k : ((2 ≤ v3) → (h v0 (-1) = 1) ∧ (inI ((h v0 2) - 1)) ∧ ∀ h1, h1 = wr h v0 2 ((h v0 2) - 1) → (h (h v0 0) (-1) = 20) ∧ (0 ≤ ((h v0 2) - 1)) ∧ (((h v0 2) - 1) < h (h v0 0) (-2)) ∧ ∀ h2, h2 = wr h1 (h v0 0) ((h v0 2) - 1) v1 → (h (h v0 1) (-1) = 20) ∧ (((h v0 2) - 1) < h (h v0 1) (-2)) ∧ ∀ h3, h3 = wr h2 (h v0 1) ((h v0 2) - 1) v2 → (inI (((h v0 2) - 1) + 1)) ∧ ∀ h4, h4 = wr h3 v0 2 (((h v0 2) - 1) + 1) → Q none h4) ∧ ((¬ (2 ≤ v3)) → (h v0 (-1) = 1) ∧ (inI (v3 - 1)) ∧ (h (h v0 0) (-1) = 20) ∧ (0 ≤ v3) ∧ (v3 < h (h v0 0) (-2)) ∧ (0 ≤ (v3 - 1)) ∧ ((v3 - 1) < h (h v0 0) (-2)) ∧ ∀ h1, h1 = wr h (h v0 0) (v3 - 1) (h (h v0 0) v3) → (h (h v0 1) (-1) = 20) ∧ (v3 < h (h v0 1) (-2)) ∧ ((v3 - 1) < h (h v0 1) (-2)) ∧ ∀ h2, h2 = wr h1 (h v0 1) (v3 - 1) (h1 (h v0 1) v3) → (inI (v3 + 1)) ∧ AW G mm_X0_remember b 10 [(0, vR v0), (1, vI v1), (2, vI v2), (3, vI (v3 + 1))] [] h2 Q)) : AW G mm_X0_remember b 10 [(0, vR v0), (1, vI v1), (2, vI v2), (3, vI v3)] [] h Q := by
  refine aw_iload_n 3 dX0_remember_10 rfl rfl ?_
  refine aw_iconst dX0_remember_11 ⟨by decide, by decide⟩ ?_
  refine aw_icmp_ge (tgt := 49) dX0_remember_12 (by decide) (fun hc => ?_) (fun hc => ?_)
  · have k := k.1 hc
    refine aw_aload_n 0 dX0_remember_49 rfl rfl ?_
    refine aw_dup dX0_remember_50 rfl ?_
    obtain ⟨o1, k⟩ := k
    refine aw_getI dX0_remember_51 fl_X0_18 rfl o1 (x := (h v0 2)) rfl ?_
    refine aw_iconst dX0_remember_54 ⟨by decide, by decide⟩ ?_
    obtain ⟨o2, k⟩ := k
    refine aw_isub dX0_remember_55 o2 ?_
    refine aw_putI dX0_remember_56 fl_X0_18 (fun q hq hf => by cases hq; cases hf) rfl rfl o1 ?_
    refine aw_hp (fun h1 e3 => ?_)
    have k := k h1 e3
    refine aw_aload_n 0 dX0_remember_59 rfl rfl ?_
    have q4 := sh_w e3 (by decide) o1
    refine aw_getR dX0_remember_60 fl_X0_9 rfl q4 (x := (h v0 0)) (rd_k e3 0 (by decide)) ?_
    refine aw_aload_n 0 dX0_remember_63 rfl rfl ?_
    refine aw_getI dX0_remember_64 fl_X0_18 rfl q4 (x := ((h v0 2) - 1)) (rd_e e3) ?_
    refine aw_iload_n 1 dX0_remember_67 rfl rfl ?_
    obtain ⟨o5, k⟩ := k
    obtain ⟨o6, k⟩ := k
    obtain ⟨o7, k⟩ := k
    have q8 := sh_w e3 (by decide) o5
    refine aw_iast dX0_remember_68 q8 o6 (lt_l (ln_w e3 (h v0 0) (by decide)) o7) ?_
    refine aw_hp (fun h2 e9 => ?_)
    have k := k h2 e9
    refine aw_aload_n 0 dX0_remember_69 rfl rfl ?_
    have q10 := sh_w e9 o6 q4
    refine aw_getR dX0_remember_70 fl_X0_15 rfl q10 (x := (h v0 1)) ((rd_a e9 v0 1 (ne_sh q8 q4 (by decide))).trans (rd_k e3 1 (by decide))) ?_
    refine aw_aload_n 0 dX0_remember_73 rfl rfl ?_
    refine aw_getI dX0_remember_74 fl_X0_18 rfl q10 (x := ((h v0 2) - 1)) ((rd_a e9 v0 2 (ne_sh q8 q4 (by decide))).trans (rd_e e3)) ?_
    refine aw_iload_n 2 dX0_remember_77 rfl rfl ?_
    obtain ⟨o11, k⟩ := k
    obtain ⟨o12, k⟩ := k
    have q13 := sh_w e3 (by decide) o11
    have q14 := sh_w e9 o6 q13
    refine aw_iast dX0_remember_78 q14 o6 (lt_l ((ln_w e9 (h v0 1) o6).trans (ln_w e3 (h v0 1) (by decide))) o12) ?_
    refine aw_hp (fun h3 e15 => ?_)
    have k := k h3 e15
    refine aw_aload_n 0 dX0_remember_79 rfl rfl ?_
    refine aw_dup dX0_remember_80 rfl ?_
    have q16 := sh_w e15 o6 q10
    refine aw_getI dX0_remember_81 fl_X0_18 rfl q16 (x := ((h v0 2) - 1)) ((rd_a e15 v0 2 (ne_sh q14 q10 (by decide))).trans ((rd_a e9 v0 2 (ne_sh q8 q4 (by decide))).trans (rd_e e3))) ?_
    refine aw_iconst dX0_remember_84 ⟨by decide, by decide⟩ ?_
    obtain ⟨o17, k⟩ := k
    refine aw_iadd dX0_remember_85 o17 ?_
    refine aw_putI dX0_remember_86 fl_X0_18 (fun q hq hf => by cases hq; cases hf) rfl rfl q16 ?_
    refine aw_hp (fun h4 e18 => ?_)
    have k := k h4 e18
    exact aw_vret dX0_remember_89 rfl k
  · have k := k.2 hc
    refine aw_aload_n 0 dX0_remember_15 rfl rfl ?_
    obtain ⟨o19, k⟩ := k
    refine aw_getR dX0_remember_16 fl_X0_9 rfl o19 (x := (h v0 0)) rfl ?_
    refine aw_iload_n 3 dX0_remember_19 rfl rfl ?_
    refine aw_iconst dX0_remember_20 ⟨by decide, by decide⟩ ?_
    obtain ⟨o20, k⟩ := k
    refine aw_isub dX0_remember_21 o20 ?_
    refine aw_aload_n 0 dX0_remember_22 rfl rfl ?_
    refine aw_getR dX0_remember_23 fl_X0_9 rfl o19 (x := (h v0 0)) rfl ?_
    refine aw_iload_n 3 dX0_remember_26 rfl rfl ?_
    obtain ⟨o21, k⟩ := k
    obtain ⟨o22, k⟩ := k
    obtain ⟨o23, k⟩ := k
    refine aw_iald dX0_remember_27 o21 o22 o23 (x := (h (h v0 0) v3)) rfl ?_
    obtain ⟨o24, k⟩ := k
    obtain ⟨o25, k⟩ := k
    refine aw_iast dX0_remember_28 o21 o24 o25 ?_
    refine aw_hp (fun h1 e26 => ?_)
    have k := k h1 e26
    refine aw_aload_n 0 dX0_remember_29 rfl rfl ?_
    have q27 := sh_w e26 o24 o19
    refine aw_getR dX0_remember_30 fl_X0_15 rfl q27 (x := (h v0 1)) (rd_a e26 v0 1 (ne_sh o21 o19 (by decide))) ?_
    refine aw_iload_n 3 dX0_remember_33 rfl rfl ?_
    refine aw_iconst dX0_remember_34 ⟨by decide, by decide⟩ ?_
    refine aw_isub dX0_remember_35 o20 ?_
    refine aw_aload_n 0 dX0_remember_36 rfl rfl ?_
    refine aw_getR dX0_remember_37 fl_X0_15 rfl q27 (x := (h v0 1)) (rd_a e26 v0 1 (ne_sh o21 o19 (by decide))) ?_
    refine aw_iload_n 3 dX0_remember_40 rfl rfl ?_
    obtain ⟨o28, k⟩ := k
    obtain ⟨o29, k⟩ := k
    have q30 := sh_w e26 o24 o28
    refine aw_iald dX0_remember_41 q30 o22 (lt_l (ln_w e26 (h v0 1) o24) o29) (x := (h1 (h v0 1) v3)) rfl ?_
    obtain ⟨o31, k⟩ := k
    refine aw_iast dX0_remember_42 q30 o24 (lt_l (ln_w e26 (h v0 1) o24) o31) ?_
    refine aw_hp (fun h2 e32 => ?_)
    have k := k h2 e32
    obtain ⟨o33, k⟩ := k
    refine aw_iinc 3 dX0_remember_43 rfl o33 (by decide) ?_
    refine aw_goto (tgt := 10) dX0_remember_46 (by decide) ?_
    exact aw_sub [1, 2, 3, 0] rfl k
set_option maxRecDepth 20000 in
theorem sg_X0_toldOf_0 {G : GG} {b : Nat × Nat} {Q : Option VV → Hp → Prop} {v0 v1 : Int} {h : Hp} (k : AW G mm_X0_toldOf b 2 [(0, vR v0), (1, vI v1), (2, vI 0)] [] h Q) : AW G mm_X0_toldOf b 0 [(0, vR v0), (1, vI v1)] [] h Q := by
  refine aw_iconst dX0_toldOf_0 ⟨by decide, by decide⟩ ?_
  refine aw_istore_n dX0_toldOf_1 rfl (by decide) ?_
  exact aw_sub [1, 2, 0] rfl k
theorem rn_X0_toldOf {G : GG} {Q : Option VV → Hp → Prop} {v0 v1 : Int} {h : Hp} (k : AW G mm_X0_toldOf (0, 0) 2 [(0, vR v0), (1, vI v1), (2, vI 0)] [] h Q) : Runs G mm_X0_toldOf [vR v0, vI v1] h Q := Runs.of (by decide +kernel) (Nat.le_of_ble_eq_true rfl) (sg_X0_toldOf_0 (b := (0, 0)) k)
set_option maxRecDepth 20000 in
theorem sg_X0_toldOf_2 {G : GG} {b : Nat × Nat} {Q : Option VV → Hp → Prop} {v0 v1 v2 : Int} {h : Hp} (k : (h v0 (-1) = 1) ∧ (((h v0 2) ≤ v2) → Q (some (vI (-1))) h) ∧ ((¬ ((h v0 2) ≤ v2)) → (h (h v0 0) (-1) = 20) ∧ (0 ≤ v2) ∧ (v2 < h (h v0 0) (-2)) ∧ ((¬ (h (h v0 0) v2) = v1) → (inI (v2 + 1)) ∧ AW G mm_X0_toldOf b 2 [(0, vR v0), (1, vI v1), (2, vI (v2 + 1))] [] h Q) ∧ (((h (h v0 0) v2) = v1) → (h (h v0 1) (-1) = 20) ∧ (v2 < h (h v0 1) (-2)) ∧ Q (some (vI (h (h v0 1) v2))) h))) : AW G mm_X0_toldOf b 2 [(0, vR v0), (1, vI v1), (2, vI v2)] [] h Q := by
  refine aw_iload_n 2 dX0_toldOf_2 rfl rfl ?_
  refine aw_aload_n 0 dX0_toldOf_3 rfl rfl ?_
  obtain ⟨o1, k⟩ := k
  refine aw_getI dX0_toldOf_4 fl_X0_18 rfl o1 (x := (h v0 2)) rfl ?_
  refine aw_icmp_ge (tgt := 33) dX0_toldOf_7 (by decide) (fun hc => ?_) (fun hc => ?_)
  · have k := k.1 hc
    refine aw_iconst dX0_toldOf_33 ⟨by decide, by decide⟩ ?_
    exact aw_iret dX0_toldOf_34 rfl k
  · have k := k.2 hc
    refine aw_aload_n 0 dX0_toldOf_10 rfl rfl ?_
    refine aw_getR dX0_toldOf_11 fl_X0_9 rfl o1 (x := (h v0 0)) rfl ?_
    refine aw_iload_n 2 dX0_toldOf_14 rfl rfl ?_
    obtain ⟨o2, k⟩ := k
    obtain ⟨o3, k⟩ := k
    obtain ⟨o4, k⟩ := k
    refine aw_iald dX0_toldOf_15 o2 o3 o4 (x := (h (h v0 0) v2)) rfl ?_
    refine aw_iload_n 1 dX0_toldOf_16 rfl rfl ?_
    refine aw_icmp_ne (tgt := 27) dX0_toldOf_17 (by decide) (fun hc => ?_) (fun hc => ?_)
    · have k := k.1 hc
      obtain ⟨o5, k⟩ := k
      refine aw_iinc 2 dX0_toldOf_27 rfl o5 (by decide) ?_
      refine aw_goto (tgt := 2) dX0_toldOf_30 (by decide) ?_
      exact aw_sub [1, 2, 0] rfl k
    · have k := k.2 hc
      refine aw_aload_n 0 dX0_toldOf_20 rfl rfl ?_
      refine aw_getR dX0_toldOf_21 fl_X0_15 rfl o1 (x := (h v0 1)) rfl ?_
      refine aw_iload_n 2 dX0_toldOf_24 rfl rfl ?_
      obtain ⟨o6, k⟩ := k
      obtain ⟨o7, k⟩ := k
      refine aw_iald dX0_toldOf_25 o6 o3 o7 (x := (h (h v0 1) v2)) rfl ?_
      exact aw_iret dX0_toldOf_26 rfl k
