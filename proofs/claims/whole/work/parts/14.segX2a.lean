/-! printed by writeseg.py: segments of methods -/
set_option maxRecDepth 20000 in
theorem sg_X2_cellSum_0 {G : GG} {b : Nat × Nat} {Q : Option VV → Hp → Prop} {v0 : Int} {h : Hp} (k : AW G mm_X2_cellSum b 4 [(0, vR v0), (1, vI 0), (2, vI 0)] [] h Q) : AW G mm_X2_cellSum b 0 [(0, vR v0)] [] h Q := by
  refine aw_iconst dX2_cellSum_0 ⟨by decide, by decide⟩ ?_
  refine aw_istore_n dX2_cellSum_1 rfl (by decide) ?_
  refine aw_iconst dX2_cellSum_2 ⟨by decide, by decide⟩ ?_
  refine aw_istore_n dX2_cellSum_3 rfl (by decide) ?_
  exact aw_sub [2, 1, 0] rfl k
theorem rn_X2_cellSum {G : GG} {Q : Option VV → Hp → Prop} {v0 : Int} {h : Hp} (k : AW G mm_X2_cellSum (0, 0) 4 [(0, vR v0), (1, vI 0), (2, vI 0)] [] h Q) : Runs G mm_X2_cellSum [vR v0] h Q := Runs.of (by decide +kernel) (Nat.le_of_ble_eq_true rfl) (sg_X2_cellSum_0 (b := (0, 0)) k)
set_option maxRecDepth 20000 in
theorem sg_X2_cellSum_4 {G : GG} {b : Nat × Nat} {Q : Option VV → Hp → Prop} {v0 v1 v2 : Int} {h : Hp} (k : ((12 ≤ v2) → Q (some (vI v1)) h) ∧ ((¬ (12 ≤ v2)) → (h v0 (-1) = 3) ∧ (h (h v0 0) (-1) = 20) ∧ (0 ≤ v2) ∧ (v2 < h (h v0 0) (-2)) ∧ (inI (v1 + (h (h v0 0) v2))) ∧ (inI (v2 + 1)) ∧ AW G mm_X2_cellSum b 4 [(0, vR v0), (1, vI (v1 + (h (h v0 0) v2))), (2, vI (v2 + 1))] [] h Q)) : AW G mm_X2_cellSum b 4 [(0, vR v0), (1, vI v1), (2, vI v2)] [] h Q := by
  refine aw_iload_n 2 dX2_cellSum_4 rfl rfl ?_
  refine aw_bipush dX2_cellSum_5 ⟨by decide, by decide⟩ (by decide) ?_
  refine aw_icmp_ge (tgt := 25) dX2_cellSum_7 (by decide) (fun hc => ?_) (fun hc => ?_)
  · have k := k.1 hc
    refine aw_iload_n 1 dX2_cellSum_25 rfl rfl ?_
    exact aw_iret dX2_cellSum_26 rfl k
  · have k := k.2 hc
    refine aw_iload_n 1 dX2_cellSum_10 rfl rfl ?_
    refine aw_aload_n 0 dX2_cellSum_11 rfl rfl ?_
    obtain ⟨o1, k⟩ := k
    refine aw_getR dX2_cellSum_12 fl_X2_9 rfl o1 (x := (h v0 0)) rfl ?_
    refine aw_iload_n 2 dX2_cellSum_15 rfl rfl ?_
    obtain ⟨o2, k⟩ := k
    obtain ⟨o3, k⟩ := k
    obtain ⟨o4, k⟩ := k
    refine aw_iald dX2_cellSum_16 o2 o3 o4 (x := (h (h v0 0) v2)) rfl ?_
    obtain ⟨o5, k⟩ := k
    refine aw_iadd dX2_cellSum_17 o5 ?_
    refine aw_istore_n dX2_cellSum_18 rfl (by decide) ?_
    obtain ⟨o6, k⟩ := k
    refine aw_iinc 2 dX2_cellSum_19 rfl o6 (by decide) ?_
    refine aw_goto (tgt := 4) dX2_cellSum_22 (by decide) ?_
    exact aw_sub [2, 1, 0] rfl k
set_option maxRecDepth 20000 in
theorem sg_X2_init_0 {G : GG} {b : Nat × Nat} {Q : Option VV → Hp → Prop} {v0 : Int} {h : Hp} (k : (h v0 (-1) = 3) ∧ (inI (h 0 0 + 1)) ∧ (1 ≤ b.1) ∧ (12 ≤ b.2) ∧ ∀ a7, a7 = h 0 0 + 1 → ∀ h1, h1 = nw h 20 12 → ∀ h2, h2 = wr h1 v0 0 a7 → (inI (h2 0 0 + 1)) ∧ (1 ≤ b.1 - 1) ∧ (4 ≤ b.2 - 12) ∧ ∀ a17, a17 = h2 0 0 + 1 → ∀ h3, h3 = nw h2 33 4 → ∀ h4, h4 = wr h3 v0 1 a17 → ∀ h5, h5 = wr h4 v0 2 0 → ∀ h6, h6 = wr h5 v0 3 0 → ∀ h7, h7 = wr h6 v0 4 0 → ∀ h8, h8 = wr h7 v0 5 0 → AW G mm_X2_init (b.1 - 1 - 1, b.2 - 12 - 4) 42 [(0, vR v0), (1, vI 0)] [] h8 Q) : AW G mm_X2_init b 0 [(0, vR v0)] [] h Q := by
  refine aw_aload_n 0 dX2_init_0 rfl rfl ?_
  obtain ⟨o1, k⟩ := k
  refine aw_use (fun _ _ oz2 => ?_)
  refine aw_obj lo_X2_3 dX2_init_1 (nz_s oz2 o1 (by decide)) ⟨by decide, Nat.le_of_ble_eq_true rfl⟩ ?_
  refine aw_aload_n 0 dX2_init_4 rfl rfl ?_
  refine aw_bipush dX2_init_5 ⟨by decide, by decide⟩ (by decide) ?_
  refine aw_use (fun _ _ oh3 => ?_)
  obtain ⟨o4, k⟩ := k
  obtain ⟨o5, k⟩ := k
  obtain ⟨o6, k⟩ := k
  refine aw_newa na_int dX2_init_7 (by decide) (by decide) o4 o5 o6 ?_
  refine aw_hq (fun a7 e8 h1 e9 => ?_)
  have k := k a7 e8 h1 e9
  have q10 := sh_f e9 e8
  have q11 := sh_n e9 oh3 o1 (by decide)
  refine aw_putR dX2_init_9 fl_X2_9 (fun q hq _ => by cases hq; exact ⟨rfl, rfl⟩) rfl rfl q11 ?_
  refine aw_hp (fun h2 e12 => ?_)
  have k := k h2 e12
  refine aw_aload_n 0 dX2_init_12 rfl rfl ?_
  refine aw_iconst dX2_init_13 ⟨by decide, by decide⟩ ?_
  refine aw_use (fun _ _ oh13 => ?_)
  obtain ⟨o14, k⟩ := k
  obtain ⟨o15, k⟩ := k
  obtain ⟨o16, k⟩ := k
  refine aw_anew 5 3 aq_3 al_X2_15 dX2_init_14 (by decide) (by decide) o14 o15 o16 ?_
  refine aw_hq (fun a17 e18 h3 e19 => ?_)
  have k := k a17 e18 h3 e19
  have q20 := sh_f e19 e18
  have q21 := sh_w e12 (by decide) q11
  have q22 := sh_n e19 oh13 q21 (by decide)
  refine aw_putR dX2_init_17 fl_X2_17 (fun q hq _ => by cases hq; exact ⟨rfl, rfl⟩) rfl rfl q22 ?_
  refine aw_hp (fun h4 e23 => ?_)
  have k := k h4 e23
  refine aw_aload_n 0 dX2_init_20 rfl rfl ?_
  refine aw_null dX2_init_21 ?_
  have q24 := sh_w e23 (by decide) q22
  refine aw_putR dX2_init_22 fl_X2_21 (fun q hq hf => by cases hq; cases hf) rfl rfl q24 ?_
  refine aw_hp (fun h5 e25 => ?_)
  have k := k h5 e25
  refine aw_aload_n 0 dX2_init_25 rfl rfl ?_
  refine aw_null dX2_init_26 ?_
  have q26 := sh_w e25 (by decide) q24
  refine aw_putR dX2_init_27 fl_X2_25 (fun q hq hf => by cases hq; cases hf) rfl rfl q26 ?_
  refine aw_hp (fun h6 e27 => ?_)
  have k := k h6 e27
  refine aw_aload_n 0 dX2_init_30 rfl rfl ?_
  refine aw_iconst dX2_init_31 ⟨by decide, by decide⟩ ?_
  have q28 := sh_w e27 (by decide) q26
  refine aw_putI dX2_init_32 fl_X2_28 (fun q hq hf => by cases hq; cases hf) rfl rfl q28 ?_
  refine aw_hp (fun h7 e29 => ?_)
  have k := k h7 e29
  refine aw_aload_n 0 dX2_init_35 rfl rfl ?_
  refine aw_iconst dX2_init_36 ⟨by decide, by decide⟩ ?_
  have q30 := sh_w e29 (by decide) q28
  refine aw_putI dX2_init_37 fl_X2_32 (fun q hq hf => by cases hq; cases hf) rfl rfl q30 ?_
  refine aw_hp (fun h8 e31 => ?_)
  have k := k h8 e31
  refine aw_iconst dX2_init_40 ⟨by decide, by decide⟩ ?_
  refine aw_istore_n dX2_init_41 rfl (by decide) ?_
  exact aw_sub [1, 0] rfl k
theorem rn_X2_init {G : GG} {Q : Option VV → Hp → Prop} {v0 : Int} {h : Hp} (k : (h v0 (-1) = 3) ∧ (inI (h 0 0 + 1)) ∧ (1 ≤ 6) ∧ (12 ≤ 32) ∧ ∀ a7, a7 = h 0 0 + 1 → ∀ h1, h1 = nw h 20 12 → ∀ h2, h2 = wr h1 v0 0 a7 → (inI (h2 0 0 + 1)) ∧ (1 ≤ 6 - 1) ∧ (4 ≤ 32 - 12) ∧ ∀ a17, a17 = h2 0 0 + 1 → ∀ h3, h3 = nw h2 33 4 → ∀ h4, h4 = wr h3 v0 1 a17 → ∀ h5, h5 = wr h4 v0 2 0 → ∀ h6, h6 = wr h5 v0 3 0 → ∀ h7, h7 = wr h6 v0 4 0 → ∀ h8, h8 = wr h7 v0 5 0 → AW G mm_X2_init (6 - 1 - 1, 32 - 12 - 4) 42 [(0, vR v0), (1, vI 0)] [] h8 Q) : Runs G mm_X2_init [vR v0] h Q := Runs.of (by decide +kernel) (Nat.le_of_ble_eq_true rfl) (sg_X2_init_0 (b := (6, 32)) k)
set_option maxRecDepth 20000 in
theorem sg_X2_init_42 {G : GG} {b : Nat × Nat} {Q : Option VV → Hp → Prop} {v0 v1 : Int} {h : Hp} (k : ((4 ≤ v1) → Q none h) ∧ ((¬ (4 ≤ v1)) → (h v0 (-1) = 3) ∧ (inI (h 0 0 + 1)) ∧ (1 ≤ b.1) ∧ (4 ≤ b.2) ∧ ∀ a6, a6 = h 0 0 + 1 → ∀ h1, h1 = nw h 4 0 → Runs G mm_X3_init [vR a6] h1 (fun r h' => AW G mm_X2_init (b.1 - 1, b.2 - 4) 59 [(0, vR v0), (1, vI v1)] (r.toList ++ [vR a6, vI v1, vR (h v0 1)]) h' Q))) : AW G mm_X2_init b 42 [(0, vR v0), (1, vI v1)] [] h Q := by
  refine aw_iload_n 1 dX2_init_42 rfl rfl ?_
  refine aw_iconst dX2_init_43 ⟨by decide, by decide⟩ ?_
  refine aw_icmp_ge (tgt := 66) dX2_init_44 (by decide) (fun hc => ?_) (fun hc => ?_)
  · have k := k.1 hc
    exact aw_vret dX2_init_66 rfl k
  · have k := k.2 hc
    refine aw_aload_n 0 dX2_init_47 rfl rfl ?_
    obtain ⟨o1, k⟩ := k
    refine aw_getR dX2_init_48 fl_X2_17 rfl o1 (x := (h v0 1)) rfl ?_
    refine aw_iload_n 1 dX2_init_51 rfl rfl ?_
    refine aw_use (fun _ _ oh2 => ?_)
    obtain ⟨o3, k⟩ := k
    obtain ⟨o4, k⟩ := k
    obtain ⟨o5, k⟩ := k
    refine aw_new 3 nl_X2_15 dX2_init_52 o3 o4 o5 ?_
    refine aw_hq (fun a6 e7 h1 e8 => ?_)
    have k := k a6 e7 h1 e8
    have q9 := sh_f e8 e7
    refine aw_dup dX2_init_55 rfl ?_
    refine aw_use (fun _ _ oz10 => ?_)
    refine aw_callIN (M' := mm_X3_init) [] [vR a6, vI v1, vR (h v0 1)] lk_X2_35 dX2_init_56 rfl (Nat.le_of_ble_eq_true rfl) ⟨by decide, by decide, Nat.zero_le _, Nat.zero_le _⟩ (nz_s oz10 q9 (by decide)) ?_
    exact k
set_option maxRecDepth 20000 in
theorem sg_X2_init_59 {G : GG} {b : Nat × Nat} {Q : Option VV → Hp → Prop} {v0 v1 s0 s1 s2 : Int} {h : Hp} (k : (h s2 (-1) = 33) ∧ (0 ≤ s1) ∧ (s1 < h s2 (-2)) ∧ (h s0 (-1) = 4) ∧ ∀ h1, h1 = wr h s2 s1 s0 → (inI (v1 + 1)) ∧ AW G mm_X2_init b 42 [(0, vR v0), (1, vI (v1 + 1))] [] h1 Q) : AW G mm_X2_init b 59 [(0, vR v0), (1, vI v1)] [vR s0, vI s1, vR s2] h Q := by
  obtain ⟨o1, k⟩ := k
  obtain ⟨o2, k⟩ := k
  obtain ⟨o3, k⟩ := k
  obtain ⟨o4, k⟩ := k
  refine aw_aast 5 3 aq_3 dX2_init_59 o1 o2 o3 o4 ?_
  refine aw_hp (fun h1 e5 => ?_)
  have k := k h1 e5
  obtain ⟨o6, k⟩ := k
  refine aw_iinc 1 dX2_init_60 rfl o6 (by decide) ?_
  refine aw_goto (tgt := 42) dX2_init_63 (by decide) ?_
  exact aw_sub [1, 0] rfl k
set_option maxRecDepth 20000 in
theorem sg_X2_keyCount_0 {G : GG} {b : Nat × Nat} {Q : Option VV → Hp → Prop} {v0 : Int} {h : Hp} (k : AW G mm_X2_keyCount b 4 [(0, vR v0), (1, vI 0), (2, vI 0)] [] h Q) : AW G mm_X2_keyCount b 0 [(0, vR v0)] [] h Q := by
  refine aw_iconst dX2_keyCount_0 ⟨by decide, by decide⟩ ?_
  refine aw_istore_n dX2_keyCount_1 rfl (by decide) ?_
  refine aw_iconst dX2_keyCount_2 ⟨by decide, by decide⟩ ?_
  refine aw_istore_n dX2_keyCount_3 rfl (by decide) ?_
  exact aw_sub [2, 1, 0] rfl k
theorem rn_X2_keyCount {G : GG} {Q : Option VV → Hp → Prop} {v0 : Int} {h : Hp} (k : AW G mm_X2_keyCount (0, 0) 4 [(0, vR v0), (1, vI 0), (2, vI 0)] [] h Q) : Runs G mm_X2_keyCount [vR v0] h Q := Runs.of (by decide +kernel) (Nat.le_of_ble_eq_true rfl) (sg_X2_keyCount_0 (b := (0, 0)) k)
set_option maxRecDepth 20000 in
theorem sg_X2_keyCount_4 {G : GG} {b : Nat × Nat} {Q : Option VV → Hp → Prop} {v0 v1 v2 : Int} {h : Hp} (k : ((4 ≤ v2) → Q (some (vI v1)) h) ∧ ((¬ (4 ≤ v2)) → (h v0 (-1) = 3) ∧ (h (h v0 1) (-1) = 33) ∧ (0 ≤ v2) ∧ (v2 < h (h v0 1) (-2)) ∧ (h (h (h v0 1) v2) (-1) = 4) ∧ (((h (h (h v0 1) v2) 0) = 0) → (inI (v2 + 1)) ∧ AW G mm_X2_keyCount b 4 [(0, vR v0), (1, vI v1), (2, vI (v2 + 1))] [] h Q) ∧ ((¬ ((h (h (h v0 1) v2) 0) = 0)) → (inI (v1 + 1)) ∧ (inI (v2 + 1)) ∧ AW G mm_X2_keyCount b 4 [(0, vR v0), (1, vI (v1 + 1)), (2, vI (v2 + 1))] [] h Q))) : AW G mm_X2_keyCount b 4 [(0, vR v0), (1, vI v1), (2, vI v2)] [] h Q := by
  refine aw_iload_n 2 dX2_keyCount_4 rfl rfl ?_
  refine aw_iconst dX2_keyCount_5 ⟨by decide, by decide⟩ ?_
  refine aw_icmp_ge (tgt := 30) dX2_keyCount_6 (by decide) (fun hc => ?_) (fun hc => ?_)
  · have k := k.1 hc
    refine aw_iload_n 1 dX2_keyCount_30 rfl rfl ?_
    exact aw_iret dX2_keyCount_31 rfl k
  · have k := k.2 hc
    refine aw_aload_n 0 dX2_keyCount_9 rfl rfl ?_
    obtain ⟨o1, k⟩ := k
    refine aw_getR dX2_keyCount_10 fl_X2_17 rfl o1 (x := (h v0 1)) rfl ?_
    refine aw_iload_n 2 dX2_keyCount_13 rfl rfl ?_
    obtain ⟨o2, k⟩ := k
    obtain ⟨o3, k⟩ := k
    obtain ⟨o4, k⟩ := k
    refine aw_aald 5 3 aq_3 dX2_keyCount_14 o2 o3 o4 (x := (h (h v0 1) v2)) rfl ?_
    obtain ⟨o5, k⟩ := k
    refine aw_getI dX2_keyCount_15 fl_X2_36 rfl o5 (x := (h (h (h v0 1) v2) 0)) rfl ?_
    refine aw_if_eq (tgt := 24) dX2_keyCount_18 (by decide) (fun hc => ?_) (fun hc => ?_)
    · have k := k.1 hc
      obtain ⟨o6, k⟩ := k
      refine aw_iinc 2 dX2_keyCount_24 rfl o6 (by decide) ?_
      refine aw_goto (tgt := 4) dX2_keyCount_27 (by decide) ?_
      exact aw_sub [1, 2, 0] rfl k
    · have k := k.2 hc
      obtain ⟨o7, k⟩ := k
      refine aw_iinc 1 dX2_keyCount_21 rfl o7 (by decide) ?_
      obtain ⟨o8, k⟩ := k
      refine aw_iinc 2 dX2_keyCount_24 rfl o8 (by decide) ?_
      refine aw_goto (tgt := 4) dX2_keyCount_27 (by decide) ?_
      exact aw_sub [2, 1, 0] rfl k
set_option maxRecDepth 20000 in
theorem sg_X2_pullNotice_0 {G : GG} {b : Nat × Nat} {Q : Option VV → Hp → Prop} {v0 : Int} {h : Hp} (k : (h v0 (-1) = 3) ∧ ((¬ (h v0 2) = 0) → (h (h v0 2) (-1) = 5) ∧ ∀ h1, h1 = wr h v0 2 (h (h v0 2) 5) → ((¬ (h (h v0 2) 5) = 0) → ∀ h2, h2 = wr h1 (h v0 2) 5 0 → (inI ((h v0 4) - 1)) ∧ ∀ h3, h3 = wr h2 v0 4 ((h v0 4) - 1) → Q (some (vR (h v0 2))) h3) ∧ (((h (h v0 2) 5) = 0) → ∀ h2, h2 = wr h1 v0 3 0 → ∀ h3, h3 = wr h2 (h v0 2) 5 0 → (inI ((h v0 4) - 1)) ∧ ∀ h4, h4 = wr h3 v0 4 ((h v0 4) - 1) → Q (some (vR (h v0 2))) h4)) ∧ (((h v0 2) = 0) → Q (some (vR 0)) h)) : AW G mm_X2_pullNotice b 0 [(0, vR v0)] [] h Q := by
  refine aw_aload_n 0 dX2_pullNotice_0 rfl rfl ?_
  obtain ⟨o1, k⟩ := k
  refine aw_getR dX2_pullNotice_1 fl_X2_21 rfl o1 (x := (h v0 2)) rfl ?_
  refine aw_astore_n dX2_pullNotice_4 rfl (by decide) ?_
  refine aw_aload_n 0 dX2_pullNotice_5 rfl rfl ?_
  refine aw_ifnonnull (tgt := 11) dX2_pullNotice_6 (by decide) (fun hc => ?_) (fun hc => ?_)
  · have k := k.1 hc
    refine aw_aload_n 1 dX2_pullNotice_11 rfl rfl ?_
    refine aw_aload_n 0 dX2_pullNotice_12 rfl rfl ?_
    obtain ⟨o2, k⟩ := k
    refine aw_getR dX2_pullNotice_13 fl_X2_49 rfl o2 (x := (h (h v0 2) 5)) rfl ?_
    refine aw_putR dX2_pullNotice_16 fl_X2_21 (fun q hq hf => by cases hq; cases hf) rfl rfl o1 ?_
    refine aw_hp (fun h1 e3 => ?_)
    have k := k h1 e3
    refine aw_aload_n 1 dX2_pullNotice_19 rfl rfl ?_
    have q4 := sh_w e3 (by decide) o1
    refine aw_getR dX2_pullNotice_20 fl_X2_21 rfl q4 (x := (h (h v0 2) 5)) (rd_e e3) ?_
    refine aw_ifnonnull (tgt := 31) dX2_pullNotice_23 (by decide) (fun hc => ?_) (fun hc => ?_)
    · have k := k.1 hc
      refine aw_aload_n 0 dX2_pullNotice_31 rfl rfl ?_
      refine aw_null dX2_pullNotice_32 ?_
      have q5 := sh_w e3 (by decide) o2
      refine aw_putR dX2_pullNotice_33 fl_X2_49 (fun q hq hf => by cases hq; cases hf) rfl rfl q5 ?_
      refine aw_hp (fun h2 e6 => ?_)
      have k := k h2 e6
      refine aw_aload_n 1 dX2_pullNotice_36 rfl rfl ?_
      refine aw_dup dX2_pullNotice_37 rfl ?_
      have q7 := sh_w e6 (by decide) q4
      refine aw_getI dX2_pullNotice_38 fl_X2_28 rfl q7 (x := (h v0 4)) ((rd_a e6 v0 4 (ne_sh q5 q4 (by decide))).trans (rd_k e3 4 (by decide))) ?_
      refine aw_iconst dX2_pullNotice_41 ⟨by decide, by decide⟩ ?_
      obtain ⟨o8, k⟩ := k
      refine aw_isub dX2_pullNotice_42 o8 ?_
      refine aw_putI dX2_pullNotice_43 fl_X2_28 (fun q hq hf => by cases hq; cases hf) rfl rfl q7 ?_
      refine aw_hp (fun h3 e9 => ?_)
      have k := k h3 e9
      refine aw_aload_n 0 dX2_pullNotice_46 rfl rfl ?_
      exact aw_aret dX2_pullNotice_47 rfl rfl k
    · have k := k.2 hc
      refine aw_aload_n 1 dX2_pullNotice_26 rfl rfl ?_
      refine aw_null dX2_pullNotice_27 ?_
      refine aw_putR dX2_pullNotice_28 fl_X2_25 (fun q hq hf => by cases hq; cases hf) rfl rfl q4 ?_
      refine aw_hp (fun h2 e10 => ?_)
      have k := k h2 e10
      refine aw_aload_n 0 dX2_pullNotice_31 rfl rfl ?_
      refine aw_null dX2_pullNotice_32 ?_
      have q11 := sh_w e3 (by decide) o2
      have q12 := sh_w e10 (by decide) q11
      refine aw_putR dX2_pullNotice_33 fl_X2_49 (fun q hq hf => by cases hq; cases hf) rfl rfl q12 ?_
      refine aw_hp (fun h3 e13 => ?_)
      have k := k h3 e13
      refine aw_aload_n 1 dX2_pullNotice_36 rfl rfl ?_
      refine aw_dup dX2_pullNotice_37 rfl ?_
      have q14 := sh_w e10 (by decide) q4
      have q15 := sh_w e13 (by decide) q14
      refine aw_getI dX2_pullNotice_38 fl_X2_28 rfl q15 (x := (h v0 4)) ((rd_a e13 v0 4 (ne_sh q12 q14 (by decide))).trans ((rd_k e10 4 (by decide)).trans (rd_k e3 4 (by decide)))) ?_
      refine aw_iconst dX2_pullNotice_41 ⟨by decide, by decide⟩ ?_
      obtain ⟨o16, k⟩ := k
      refine aw_isub dX2_pullNotice_42 o16 ?_
      refine aw_putI dX2_pullNotice_43 fl_X2_28 (fun q hq hf => by cases hq; cases hf) rfl rfl q15 ?_
      refine aw_hp (fun h4 e17 => ?_)
      have k := k h4 e17
      refine aw_aload_n 0 dX2_pullNotice_46 rfl rfl ?_
      exact aw_aret dX2_pullNotice_47 rfl rfl k
  · have k := k.2 hc
    refine aw_null dX2_pullNotice_9 ?_
    exact aw_aret dX2_pullNotice_10 rfl rfl k
theorem rn_X2_pullNotice {G : GG} {Q : Option VV → Hp → Prop} {v0 : Int} {h : Hp} (k : (h v0 (-1) = 3) ∧ ((¬ (h v0 2) = 0) → (h (h v0 2) (-1) = 5) ∧ ∀ h1, h1 = wr h v0 2 (h (h v0 2) 5) → ((¬ (h (h v0 2) 5) = 0) → ∀ h2, h2 = wr h1 (h v0 2) 5 0 → (inI ((h v0 4) - 1)) ∧ ∀ h3, h3 = wr h2 v0 4 ((h v0 4) - 1) → Q (some (vR (h v0 2))) h3) ∧ (((h (h v0 2) 5) = 0) → ∀ h2, h2 = wr h1 v0 3 0 → ∀ h3, h3 = wr h2 (h v0 2) 5 0 → (inI ((h v0 4) - 1)) ∧ ∀ h4, h4 = wr h3 v0 4 ((h v0 4) - 1) → Q (some (vR (h v0 2))) h4)) ∧ (((h v0 2) = 0) → Q (some (vR 0)) h)) : Runs G mm_X2_pullNotice [vR v0] h Q := Runs.of (by decide +kernel) (Nat.le_of_ble_eq_true rfl) (sg_X2_pullNotice_0 (b := (0, 0)) k)
set_option maxRecDepth 20000 in
theorem sg_X2_pushNotice_0 {G : GG} {b : Nat × Nat} {Q : Option VV → Hp → Prop} {v0 v1 : Int} {h : Hp} (k : (h v0 (-1) = 3) ∧ (((h v0 4) < 512) → ((¬ (h v0 3) = 0) → (h (h v0 3) (-1) = 5) ∧ ∀ h1, h1 = wr h (h v0 3) 5 v1 → ∀ h2, h2 = wr h1 v0 3 v1 → (inI ((h v0 4) + 1)) ∧ ∀ h3, h3 = wr h2 v0 4 ((h v0 4) + 1) → Q none h3) ∧ (((h v0 3) = 0) → ∀ h1, h1 = wr h v0 2 v1 → ∀ h2, h2 = wr h1 v0 3 v1 → (inI ((h v0 4) + 1)) ∧ ∀ h3, h3 = wr h2 v0 4 ((h v0 4) + 1) → Q none h3)) ∧ ((¬ ((h v0 4) < 512)) → Q none h)) : AW G mm_X2_pushNotice b 0 [(0, vR v0), (1, vR v1)] [] h Q := by
  refine aw_aload_n 0 dX2_pushNotice_0 rfl rfl ?_
  obtain ⟨o1, k⟩ := k
  refine aw_getI dX2_pushNotice_1 fl_X2_28 rfl o1 (x := (h v0 4)) rfl ?_
  refine aw_sipush dX2_pushNotice_4 ⟨by decide, by decide⟩ (by decide) ?_
  refine aw_icmp_lt (tgt := 11) dX2_pushNotice_7 (by decide) (fun hc => ?_) (fun hc => ?_)
  · have k := k.1 hc
    refine aw_aload_n 0 dX2_pushNotice_11 rfl rfl ?_
    refine aw_getR dX2_pushNotice_12 fl_X2_25 rfl o1 (x := (h v0 3)) rfl ?_
    refine aw_ifnonnull (tgt := 26) dX2_pushNotice_15 (by decide) (fun hc => ?_) (fun hc => ?_)
    · have k := k.1 hc
      refine aw_aload_n 0 dX2_pushNotice_26 rfl rfl ?_
      refine aw_getR dX2_pushNotice_27 fl_X2_25 rfl o1 (x := (h v0 3)) rfl ?_
      refine aw_aload_n 1 dX2_pushNotice_30 rfl rfl ?_
      obtain ⟨o2, k⟩ := k
      refine aw_putR dX2_pushNotice_31 fl_X2_49 (fun q hq hf => by cases hq; cases hf) rfl rfl o2 ?_
      refine aw_hp (fun h1 e3 => ?_)
      have k := k h1 e3
      refine aw_aload_n 0 dX2_pushNotice_34 rfl rfl ?_
      refine aw_aload_n 1 dX2_pushNotice_35 rfl rfl ?_
      have q4 := sh_w e3 (by decide) o1
      refine aw_putR dX2_pushNotice_36 fl_X2_25 (fun q hq hf => by cases hq; cases hf) rfl rfl q4 ?_
      refine aw_hp (fun h2 e5 => ?_)
      have k := k h2 e5
      refine aw_aload_n 0 dX2_pushNotice_39 rfl rfl ?_
      refine aw_dup dX2_pushNotice_40 rfl ?_
      have q6 := sh_w e5 (by decide) q4
      refine aw_getI dX2_pushNotice_41 fl_X2_28 rfl q6 (x := (h v0 4)) ((rd_k e5 4 (by decide)).trans (rd_a e3 v0 4 (ne_sh o2 o1 (by decide)))) ?_
      refine aw_iconst dX2_pushNotice_44 ⟨by decide, by decide⟩ ?_
      obtain ⟨o7, k⟩ := k
      refine aw_iadd dX2_pushNotice_45 o7 ?_
      refine aw_putI dX2_pushNotice_46 fl_X2_28 (fun q hq hf => by cases hq; cases hf) rfl rfl q6 ?_
      refine aw_hp (fun h3 e8 => ?_)
      have k := k h3 e8
      exact aw_vret dX2_pushNotice_49 rfl k
    · have k := k.2 hc
      refine aw_aload_n 0 dX2_pushNotice_18 rfl rfl ?_
      refine aw_aload_n 1 dX2_pushNotice_19 rfl rfl ?_
      refine aw_putR dX2_pushNotice_20 fl_X2_21 (fun q hq hf => by cases hq; cases hf) rfl rfl o1 ?_
      refine aw_hp (fun h1 e9 => ?_)
      have k := k h1 e9
      refine aw_goto (tgt := 34) dX2_pushNotice_23 (by decide) ?_
      refine aw_aload_n 0 dX2_pushNotice_34 rfl rfl ?_
      refine aw_aload_n 1 dX2_pushNotice_35 rfl rfl ?_
      have q10 := sh_w e9 (by decide) o1
      refine aw_putR dX2_pushNotice_36 fl_X2_25 (fun q hq hf => by cases hq; cases hf) rfl rfl q10 ?_
      refine aw_hp (fun h2 e11 => ?_)
      have k := k h2 e11
      refine aw_aload_n 0 dX2_pushNotice_39 rfl rfl ?_
      refine aw_dup dX2_pushNotice_40 rfl ?_
      have q12 := sh_w e11 (by decide) q10
      refine aw_getI dX2_pushNotice_41 fl_X2_28 rfl q12 (x := (h v0 4)) ((rd_k e11 4 (by decide)).trans (rd_k e9 4 (by decide))) ?_
      refine aw_iconst dX2_pushNotice_44 ⟨by decide, by decide⟩ ?_
      obtain ⟨o13, k⟩ := k
      refine aw_iadd dX2_pushNotice_45 o13 ?_
      refine aw_putI dX2_pushNotice_46 fl_X2_28 (fun q hq hf => by cases hq; cases hf) rfl rfl q12 ?_
      refine aw_hp (fun h3 e14 => ?_)
      have k := k h3 e14
      exact aw_vret dX2_pushNotice_49 rfl k
  · have k := k.2 hc
    exact aw_vret dX2_pushNotice_10 rfl k
theorem rn_X2_pushNotice {G : GG} {Q : Option VV → Hp → Prop} {v0 v1 : Int} {h : Hp} (k : (h v0 (-1) = 3) ∧ (((h v0 4) < 512) → ((¬ (h v0 3) = 0) → (h (h v0 3) (-1) = 5) ∧ ∀ h1, h1 = wr h (h v0 3) 5 v1 → ∀ h2, h2 = wr h1 v0 3 v1 → (inI ((h v0 4) + 1)) ∧ ∀ h3, h3 = wr h2 v0 4 ((h v0 4) + 1) → Q none h3) ∧ (((h v0 3) = 0) → ∀ h1, h1 = wr h v0 2 v1 → ∀ h2, h2 = wr h1 v0 3 v1 → (inI ((h v0 4) + 1)) ∧ ∀ h3, h3 = wr h2 v0 4 ((h v0 4) + 1) → Q none h3)) ∧ ((¬ ((h v0 4) < 512)) → Q none h)) : Runs G mm_X2_pushNotice [vR v0, vR v1] h Q := Runs.of (by decide +kernel) (Nat.le_of_ble_eq_true rfl) (sg_X2_pushNotice_0 (b := (0, 0)) k)
set_option maxRecDepth 20000 in
theorem sg_X2_reset_0 {G : GG} {b : Nat × Nat} {Q : Option VV → Hp → Prop} {v0 : Int} {h : Hp} (k : AW G mm_X2_reset b 2 [(0, vR v0), (1, vI 0)] [] h Q) : AW G mm_X2_reset b 0 [(0, vR v0)] [] h Q := by
  refine aw_iconst dX2_reset_0 ⟨by decide, by decide⟩ ?_
  refine aw_istore_n dX2_reset_1 rfl (by decide) ?_
  exact aw_sub [1, 0] rfl k
theorem rn_X2_reset {G : GG} {Q : Option VV → Hp → Prop} {v0 : Int} {h : Hp} (k : AW G mm_X2_reset (0, 0) 2 [(0, vR v0), (1, vI 0)] [] h Q) : Runs G mm_X2_reset [vR v0] h Q := Runs.of (by decide +kernel) (Nat.le_of_ble_eq_true rfl) (sg_X2_reset_0 (b := (0, 0)) k)
set_option maxRecDepth 20000 in
theorem sg_X2_reset_2 {G : GG} {b : Nat × Nat} {Q : Option VV → Hp → Prop} {v0 v1 : Int} {h : Hp} (k : ((12 ≤ v1) → AW G mm_X2_reset b 23 [(0, vR v0), (1, vI 0)] [] h Q) ∧ ((¬ (12 ≤ v1)) → (h v0 (-1) = 3) ∧ (h (h v0 0) (-1) = 20) ∧ (0 ≤ v1) ∧ (v1 < h (h v0 0) (-2)) ∧ ∀ h1, h1 = wr h (h v0 0) v1 0 → (inI (v1 + 1)) ∧ AW G mm_X2_reset b 2 [(0, vR v0), (1, vI (v1 + 1))] [] h1 Q)) : AW G mm_X2_reset b 2 [(0, vR v0), (1, vI v1)] [] h Q := by
  refine aw_iload_n 1 dX2_reset_2 rfl rfl ?_
  refine aw_bipush dX2_reset_3 ⟨by decide, by decide⟩ (by decide) ?_
  refine aw_icmp_ge (tgt := 21) dX2_reset_5 (by decide) (fun hc => ?_) (fun hc => ?_)
  · have k := k.1 hc
    refine aw_iconst dX2_reset_21 ⟨by decide, by decide⟩ ?_
    refine aw_istore_n dX2_reset_22 rfl (by decide) ?_
    exact aw_sub [1, 0] rfl k
  · have k := k.2 hc
    refine aw_aload_n 0 dX2_reset_8 rfl rfl ?_
    obtain ⟨o1, k⟩ := k
    refine aw_getR dX2_reset_9 fl_X2_9 rfl o1 (x := (h v0 0)) rfl ?_
    refine aw_iload_n 1 dX2_reset_12 rfl rfl ?_
    refine aw_iconst dX2_reset_13 ⟨by decide, by decide⟩ ?_
    obtain ⟨o2, k⟩ := k
    obtain ⟨o3, k⟩ := k
    obtain ⟨o4, k⟩ := k
    refine aw_iast dX2_reset_14 o2 o3 o4 ?_
    refine aw_hp (fun h1 e5 => ?_)
    have k := k h1 e5
    obtain ⟨o6, k⟩ := k
    refine aw_iinc 1 dX2_reset_15 rfl o6 (by decide) ?_
    refine aw_goto (tgt := 2) dX2_reset_18 (by decide) ?_
    exact aw_sub [1, 0] rfl k
set_option maxRecDepth 20000 in
theorem sg_X2_reset_23 {G : GG} {b : Nat × Nat} {Q : Option VV → Hp → Prop} {v0 v1 : Int} {h : Hp} (k : ((4 ≤ v1) → (h v0 (-1) = 3) ∧ ∀ h1, h1 = wr h v0 2 0 → ∀ h2, h2 = wr h1 v0 3 0 → ∀ h3, h3 = wr h2 v0 4 0 → ∀ h4, h4 = wr h3 v0 5 0 → Q none h4) ∧ ((¬ (4 ≤ v1)) → (h v0 (-1) = 3) ∧ (h (h v0 1) (-1) = 33) ∧ (0 ≤ v1) ∧ (v1 < h (h v0 1) (-2)) ∧ (h (h (h v0 1) v1) (-1) = 4) ∧ ∀ h1, h1 = wr h (h (h v0 1) v1) 0 0 → (inI (v1 + 1)) ∧ AW G mm_X2_reset b 23 [(0, vR v0), (1, vI (v1 + 1))] [] h1 Q)) : AW G mm_X2_reset b 23 [(0, vR v0), (1, vI v1)] [] h Q := by
  refine aw_iload_n 1 dX2_reset_23 rfl rfl ?_
  refine aw_iconst dX2_reset_24 ⟨by decide, by decide⟩ ?_
  refine aw_icmp_ge (tgt := 44) dX2_reset_25 (by decide) (fun hc => ?_) (fun hc => ?_)
  · have k := k.1 hc
    refine aw_aload_n 0 dX2_reset_44 rfl rfl ?_
    refine aw_null dX2_reset_45 ?_
    obtain ⟨o1, k⟩ := k
    refine aw_putR dX2_reset_46 fl_X2_21 (fun q hq hf => by cases hq; cases hf) rfl rfl o1 ?_
    refine aw_hp (fun h1 e2 => ?_)
    have k := k h1 e2
    refine aw_aload_n 0 dX2_reset_49 rfl rfl ?_
    refine aw_null dX2_reset_50 ?_
    have q3 := sh_w e2 (by decide) o1
    refine aw_putR dX2_reset_51 fl_X2_25 (fun q hq hf => by cases hq; cases hf) rfl rfl q3 ?_
    refine aw_hp (fun h2 e4 => ?_)
    have k := k h2 e4
    refine aw_aload_n 0 dX2_reset_54 rfl rfl ?_
    refine aw_iconst dX2_reset_55 ⟨by decide, by decide⟩ ?_
    have q5 := sh_w e4 (by decide) q3
    refine aw_putI dX2_reset_56 fl_X2_28 (fun q hq hf => by cases hq; cases hf) rfl rfl q5 ?_
    refine aw_hp (fun h3 e6 => ?_)
    have k := k h3 e6
    refine aw_aload_n 0 dX2_reset_59 rfl rfl ?_
    refine aw_iconst dX2_reset_60 ⟨by decide, by decide⟩ ?_
    have q7 := sh_w e6 (by decide) q5
    refine aw_putI dX2_reset_61 fl_X2_32 (fun q hq hf => by cases hq; cases hf) rfl rfl q7 ?_
    refine aw_hp (fun h4 e8 => ?_)
    have k := k h4 e8
    exact aw_vret dX2_reset_64 rfl k
  · have k := k.2 hc
    refine aw_aload_n 0 dX2_reset_28 rfl rfl ?_
    obtain ⟨o9, k⟩ := k
    refine aw_getR dX2_reset_29 fl_X2_17 rfl o9 (x := (h v0 1)) rfl ?_
    refine aw_iload_n 1 dX2_reset_32 rfl rfl ?_
    obtain ⟨o10, k⟩ := k
    obtain ⟨o11, k⟩ := k
    obtain ⟨o12, k⟩ := k
    refine aw_aald 5 3 aq_3 dX2_reset_33 o10 o11 o12 (x := (h (h v0 1) v1)) rfl ?_
    refine aw_iconst dX2_reset_34 ⟨by decide, by decide⟩ ?_
    obtain ⟨o13, k⟩ := k
    refine aw_putZ dX2_reset_35 fl_X2_36 (fun q hq hf => by cases hq; cases hf) rfl rfl (by decide) o13 ?_
    refine aw_hp (fun h1 e14 => ?_)
    have k := k h1 e14
    obtain ⟨o15, k⟩ := k
    refine aw_iinc 1 dX2_reset_38 rfl o15 (by decide) ?_
    refine aw_goto (tgt := 23) dX2_reset_41 (by decide) ?_
    exact aw_sub [1, 0] rfl k
set_option maxRecDepth 20000 in
theorem sg_X2_setKey_0 {G : GG} {b : Nat × Nat} {Q : Option VV → Hp → Prop} {v0 v1 v2 v3 v4 : Int} {h : Hp} (k : (h v0 (-1) = 3) ∧ (h (h v0 1) (-1) = 33) ∧ (0 ≤ v1) ∧ (v1 < h (h v0 1) (-2)) ∧ (h (h (h v0 1) v1) (-1) = 4) ∧ ∀ h1, h1 = wr h (h (h v0 1) v1) 0 1 → ∀ h2, h2 = wr h1 (h (h v0 1) v1) 1 v2 → ∀ h3, h3 = wr h2 (h (h v0 1) v1) 2 v3 → ∀ h4, h4 = wr h3 (h (h v0 1) v1) 3 v4 → Q none h4) : AW G mm_X2_setKey b 0 [(0, vR v0), (1, vI v1), (2, vI v2), (3, vI v3), (4, vI v4)] [] h Q := by
  refine aw_aload_n 0 dX2_setKey_0 rfl rfl ?_
  obtain ⟨o1, k⟩ := k
  refine aw_getR dX2_setKey_1 fl_X2_17 rfl o1 (x := (h v0 1)) rfl ?_
  refine aw_iload_n 1 dX2_setKey_4 rfl rfl ?_
  obtain ⟨o2, k⟩ := k
  obtain ⟨o3, k⟩ := k
  obtain ⟨o4, k⟩ := k
  refine aw_aald 5 3 aq_3 dX2_setKey_5 o2 o3 o4 (x := (h (h v0 1) v1)) rfl ?_
  refine aw_astore dX2_setKey_6 (by decide) ?_
  refine aw_aload 0 dX2_setKey_8 rfl ?_
  refine aw_iconst dX2_setKey_10 ⟨by decide, by decide⟩ ?_
  obtain ⟨o5, k⟩ := k
  refine aw_putZ dX2_setKey_11 fl_X2_36 (fun q hq hf => by cases hq; cases hf) rfl rfl (by decide) o5 ?_
  refine aw_hp (fun h1 e6 => ?_)
  have k := k h1 e6
  refine aw_aload 0 dX2_setKey_14 rfl ?_
  refine aw_iload_n 3 dX2_setKey_16 rfl rfl ?_
  have q7 := sh_w e6 (by decide) o5
  refine aw_putI dX2_setKey_17 fl_X2_40 (fun q hq hf => by cases hq; cases hf) rfl rfl q7 ?_
  refine aw_hp (fun h2 e8 => ?_)
  have k := k h2 e8
  refine aw_aload 0 dX2_setKey_20 rfl ?_
  refine aw_iload_n 4 dX2_setKey_22 rfl rfl ?_
  have q9 := sh_w e8 (by decide) q7
  refine aw_putI dX2_setKey_23 fl_X2_43 (fun q hq hf => by cases hq; cases hf) rfl rfl q9 ?_
  refine aw_hp (fun h3 e10 => ?_)
  have k := k h3 e10
  refine aw_aload 0 dX2_setKey_26 rfl ?_
  refine aw_iload 5 dX2_setKey_28 rfl ?_
  have q11 := sh_w e10 (by decide) q9
  refine aw_putI dX2_setKey_30 fl_X2_46 (fun q hq hf => by cases hq; cases hf) rfl rfl q11 ?_
  refine aw_hp (fun h4 e12 => ?_)
  have k := k h4 e12
  exact aw_vret dX2_setKey_33 rfl k
theorem rn_X2_setKey {G : GG} {Q : Option VV → Hp → Prop} {v0 v1 v2 v3 v4 : Int} {h : Hp} (k : (h v0 (-1) = 3) ∧ (h (h v0 1) (-1) = 33) ∧ (0 ≤ v1) ∧ (v1 < h (h v0 1) (-2)) ∧ (h (h (h v0 1) v1) (-1) = 4) ∧ ∀ h1, h1 = wr h (h (h v0 1) v1) 0 1 → ∀ h2, h2 = wr h1 (h (h v0 1) v1) 1 v2 → ∀ h3, h3 = wr h2 (h (h v0 1) v1) 2 v3 → ∀ h4, h4 = wr h3 (h (h v0 1) v1) 3 v4 → Q none h4) : Runs G mm_X2_setKey [vR v0, vI v1, vI v2, vI v3, vI v4] h Q := Runs.of (by decide +kernel) (Nat.le_of_ble_eq_true rfl) (sg_X2_setKey_0 (b := (0, 0)) k)
