/-! printed by writeseg.py: segments of methods -/
set_option maxRecDepth 20000 in
theorem sg_X6_append_0 {G : GG} {b : Nat × Nat} {Q : Option VV → Hp → Prop} {v0 v1 : Int} {h : Hp} (k : (h v0 (-1) = 7) ∧ ((200 ≤ (h v0 2)) → Q none h) ∧ ((¬ (200 ≤ (h v0 2))) → (h (h v0 0) (-1) = 22) ∧ (0 ≤ (h v0 2)) ∧ ((h v0 2) < h (h v0 0) (-2)) ∧ (0 ≤ v1 ∧ v1 < 65536) ∧ ∀ h1, h1 = wr h (h v0 0) (h v0 2) v1 → (inI ((h v0 2) + 1)) ∧ ∀ h2, h2 = wr h1 v0 2 ((h v0 2) + 1) → Q none h2)) : AW G mm_X6_append b 0 [(0, vR v0), (1, vI v1)] [] h Q := by
  refine aw_aload_n 0 dX6_append_0 rfl rfl ?_
  obtain ⟨o1, k⟩ := k
  refine aw_getI dX6_append_1 fl_X6_19 rfl o1 (x := (h v0 2)) rfl ?_
  refine aw_sipush dX6_append_4 ⟨by decide, by decide⟩ (by decide) ?_
  refine aw_icmp_ge (tgt := 30) dX6_append_7 (by decide) (fun hc => ?_) (fun hc => ?_)
  · have k := k.1 hc
    exact aw_vret dX6_append_30 rfl k
  · have k := k.2 hc
    refine aw_aload_n 0 dX6_append_10 rfl rfl ?_
    refine aw_getR dX6_append_11 fl_X6_9 rfl o1 (x := (h v0 0)) rfl ?_
    refine aw_aload_n 0 dX6_append_14 rfl rfl ?_
    refine aw_getI dX6_append_15 fl_X6_19 rfl o1 (x := (h v0 2)) rfl ?_
    refine aw_iload_n 1 dX6_append_18 rfl rfl ?_
    obtain ⟨o2, k⟩ := k
    obtain ⟨o3, k⟩ := k
    obtain ⟨o4, k⟩ := k
    obtain ⟨o5, k⟩ := k
    refine aw_cast dX6_append_19 o2 o3 o4 o5 ?_
    refine aw_hp (fun h1 e6 => ?_)
    have k := k h1 e6
    refine aw_aload_n 0 dX6_append_20 rfl rfl ?_
    refine aw_dup dX6_append_21 rfl ?_
    have q7 := sh_w e6 o3 o1
    refine aw_getI dX6_append_22 fl_X6_19 rfl q7 (x := (h v0 2)) (rd_a e6 v0 2 (ne_sh o2 o1 (by decide))) ?_
    refine aw_iconst dX6_append_25 ⟨by decide, by decide⟩ ?_
    obtain ⟨o8, k⟩ := k
    refine aw_iadd dX6_append_26 o8 ?_
    refine aw_putI dX6_append_27 fl_X6_19 (fun q hq hf => by cases hq; cases hf) rfl rfl q7 ?_
    refine aw_hp (fun h2 e9 => ?_)
    have k := k h2 e9
    exact aw_vret dX6_append_30 rfl k
theorem rn_X6_append {G : GG} {Q : Option VV → Hp → Prop} {v0 v1 : Int} {h : Hp} (k : (h v0 (-1) = 7) ∧ ((200 ≤ (h v0 2)) → Q none h) ∧ ((¬ (200 ≤ (h v0 2))) → (h (h v0 0) (-1) = 22) ∧ (0 ≤ (h v0 2)) ∧ ((h v0 2) < h (h v0 0) (-2)) ∧ (0 ≤ v1 ∧ v1 < 65536) ∧ ∀ h1, h1 = wr h (h v0 0) (h v0 2) v1 → (inI ((h v0 2) + 1)) ∧ ∀ h2, h2 = wr h1 v0 2 ((h v0 2) + 1) → Q none h2)) : Runs G mm_X6_append [vR v0, vI v1] h Q := Runs.of (by decide +kernel) (Nat.le_of_ble_eq_true rfl) (sg_X6_append_0 (b := (0, 0)) k)
set_option maxRecDepth 20000 in
theorem sg_X6_findFault_0 {G : GG} {b : Nat × Nat} {Q : Option VV → Hp → Prop} {v0 : Int} {h : Hp} (k : (h v0 (-1) = 7) ∧ Runs G mm_X6_rewind [vR v0] h (fun r h' => AW G mm_X6_findFault b 4 [(0, vR v0)] (r.toList ++ []) h' Q)) : AW G mm_X6_findFault b 0 [(0, vR v0)] [] h Q := by
  refine aw_aload_n 0 dX6_findFault_0 rfl rfl ?_
  obtain ⟨o1, k⟩ := k
  refine aw_callV (M' := mm_X6_rewind) 6 [] [] lk_X6_35 ⟨_, rfl, rfl⟩ dX6_findFault_1 rfl (Nat.le_of_ble_eq_true rfl) ⟨by decide, by decide, Nat.zero_le _, Nat.zero_le _⟩ o1 ?_
  exact k
theorem rn_X6_findFault {G : GG} {Q : Option VV → Hp → Prop} {v0 : Int} {h : Hp} (k : (h v0 (-1) = 7) ∧ Runs G mm_X6_rewind [vR v0] h (fun r h' => AW G mm_X6_findFault (0, 0) 4 [(0, vR v0)] (r.toList ++ []) h' Q)) : Runs G mm_X6_findFault [vR v0] h Q := Runs.of (by decide +kernel) (Nat.le_of_ble_eq_true rfl) (sg_X6_findFault_0 (b := (0, 0)) k)
set_option maxRecDepth 20000 in
theorem sg_X6_findFault_4 {G : GG} {b : Nat × Nat} {Q : Option VV → Hp → Prop} {v0 : Int} {h : Hp} (k : AW G mm_X6_findFault b 6 [(0, vR v0), (1, vI 1)] [] h Q) : AW G mm_X6_findFault b 4 [(0, vR v0)] [] h Q := by
  refine aw_iconst dX6_findFault_4 ⟨by decide, by decide⟩ ?_
  refine aw_istore_n dX6_findFault_5 rfl (by decide) ?_
  exact aw_sub [1, 0] rfl k
set_option maxRecDepth 20000 in
theorem sg_X6_findFault_6 {G : GG} {b : Nat × Nat} {Q : Option VV → Hp → Prop} {v0 v1 : Int} {h : Hp} (k : ((24 < v1) → (h v0 (-1) = 7) ∧ Q (some (vI (h v0 3))) h) ∧ ((¬ (24 < v1)) → (h v0 (-1) = 7) ∧ Runs G mm_X6_readClause [vR v0] h (fun r h' => AW G mm_X6_findFault b 16 [(0, vR v0), (1, vI v1)] (r.toList ++ []) h' Q))) : AW G mm_X6_findFault b 6 [(0, vR v0), (1, vI v1)] [] h Q := by
  refine aw_iload_n 1 dX6_findFault_6 rfl rfl ?_
  refine aw_bipush dX6_findFault_7 ⟨by decide, by decide⟩ (by decide) ?_
  refine aw_icmp_gt (tgt := 71) dX6_findFault_9 (by decide) (fun hc => ?_) (fun hc => ?_)
  · have k := k.1 hc
    refine aw_aload_n 0 dX6_findFault_71 rfl rfl ?_
    obtain ⟨o1, k⟩ := k
    refine aw_getI dX6_findFault_72 fl_X6_23 rfl o1 (x := (h v0 3)) rfl ?_
    exact aw_iret dX6_findFault_75 rfl k
  · have k := k.2 hc
    refine aw_aload_n 0 dX6_findFault_12 rfl rfl ?_
    obtain ⟨o2, k⟩ := k
    refine aw_callV (M' := mm_X6_readClause) 6 [] [] lk_X6_38 ⟨_, rfl, rfl⟩ dX6_findFault_13 rfl (Nat.le_of_ble_eq_true rfl) ⟨by decide, by decide, Nat.zero_le _, Nat.zero_le _⟩ o2 ?_
    exact k
set_option maxRecDepth 20000 in
theorem sg_X6_findFault_16 {G : GG} {b : Nat × Nat} {Q : Option VV → Hp → Prop} {v0 v1 s0 : Int} {h : Hp} (k : ((¬ s0 = 0) → (h v0 (-1) = 7) ∧ Runs G mm_X6_nextToken [vR v0] h (fun r h' => AW G mm_X6_findFault b 28 [(0, vR v0), (1, vI v1)] (r.toList ++ []) h' Q)) ∧ ((s0 = 0) → (h v0 (-1) = 7) ∧ Q (some (vI (h v0 3))) h)) : AW G mm_X6_findFault b 16 [(0, vR v0), (1, vI v1)] [vI s0] h Q := by
  refine aw_if_ne (tgt := 24) dX6_findFault_16 (by decide) (fun hc => ?_) (fun hc => ?_)
  · have k := k.1 hc
    refine aw_aload_n 0 dX6_findFault_24 rfl rfl ?_
    obtain ⟨o1, k⟩ := k
    refine aw_callV (M' := mm_X6_nextToken) 6 [] [] lk_X6_42 ⟨_, rfl, rfl⟩ dX6_findFault_25 rfl (Nat.le_of_ble_eq_true rfl) ⟨by decide, by decide, Nat.zero_le _, Nat.zero_le _⟩ o1 ?_
    exact k
  · have k := k.2 hc
    refine aw_aload_n 0 dX6_findFault_19 rfl rfl ?_
    obtain ⟨o2, k⟩ := k
    refine aw_getI dX6_findFault_20 fl_X6_23 rfl o2 (x := (h v0 3)) rfl ?_
    exact aw_iret dX6_findFault_23 rfl k
set_option maxRecDepth 20000 in
theorem sg_X6_findFault_28 {G : GG} {b : Nat × Nat} {Q : Option VV → Hp → Prop} {v0 v1 : Int} {h : Hp} (k : (h v0 (-1) = 7) ∧ ((¬ (h v0 3) = (h v0 2)) → (h (h v0 0) (-1) = 22) ∧ (0 ≤ (h v0 3)) ∧ ((h v0 3) < h (h v0 0) (-2)) ∧ (((h (h v0 0) (h v0 3)) = 59) → (inI (v1 + 1)) ∧ AW G mm_X6_findFault b 6 [(0, vR v0), (1, vI (v1 + 1))] [] h Q) ∧ ((¬ ((h (h v0 0) (h v0 3)) = 59)) → Q (some (vI (h v0 3))) h)) ∧ (((h v0 3) = (h v0 2)) → ∀ h1, h1 = wr h v0 6 v1 → Q (some (vI (-1))) h1)) : AW G mm_X6_findFault b 28 [(0, vR v0), (1, vI v1)] [] h Q := by
  refine aw_aload_n 0 dX6_findFault_28 rfl rfl ?_
  obtain ⟨o1, k⟩ := k
  refine aw_getI dX6_findFault_29 fl_X6_23 rfl o1 (x := (h v0 3)) rfl ?_
  refine aw_aload_n 0 dX6_findFault_32 rfl rfl ?_
  refine aw_getI dX6_findFault_33 fl_X6_19 rfl o1 (x := (h v0 2)) rfl ?_
  refine aw_icmp_ne (tgt := 46) dX6_findFault_36 (by decide) (fun hc => ?_) (fun hc => ?_)
  · have k := k.1 hc
    refine aw_aload_n 0 dX6_findFault_46 rfl rfl ?_
    refine aw_getR dX6_findFault_47 fl_X6_9 rfl o1 (x := (h v0 0)) rfl ?_
    refine aw_aload_n 0 dX6_findFault_50 rfl rfl ?_
    refine aw_getI dX6_findFault_51 fl_X6_23 rfl o1 (x := (h v0 3)) rfl ?_
    obtain ⟨o2, k⟩ := k
    obtain ⟨o3, k⟩ := k
    obtain ⟨o4, k⟩ := k
    refine aw_cald dX6_findFault_54 o2 o3 o4 (x := (h (h v0 0) (h v0 3))) rfl ?_
    refine aw_bipush dX6_findFault_55 ⟨by decide, by decide⟩ (by decide) ?_
    refine aw_icmp_eq (tgt := 65) dX6_findFault_57 (by decide) (fun hc => ?_) (fun hc => ?_)
    · have k := k.1 hc
      obtain ⟨o5, k⟩ := k
      refine aw_iinc 1 dX6_findFault_65 rfl o5 (by decide) ?_
      refine aw_goto (tgt := 6) dX6_findFault_68 (by decide) ?_
      exact aw_sub [1, 0] rfl k
    · have k := k.2 hc
      refine aw_aload_n 0 dX6_findFault_60 rfl rfl ?_
      refine aw_getI dX6_findFault_61 fl_X6_23 rfl o1 (x := (h v0 3)) rfl ?_
      exact aw_iret dX6_findFault_64 rfl k
  · have k := k.2 hc
    refine aw_aload_n 0 dX6_findFault_39 rfl rfl ?_
    refine aw_iload_n 1 dX6_findFault_40 rfl rfl ?_
    refine aw_putI dX6_findFault_41 fl_X6_32 (fun q hq hf => by cases hq; cases hf) rfl rfl o1 ?_
    refine aw_hp (fun h1 e6 => ?_)
    have k := k h1 e6
    refine aw_iconst dX6_findFault_44 ⟨by decide, by decide⟩ ?_
    exact aw_iret dX6_findFault_45 rfl k
set_option maxRecDepth 20000 in
theorem sg_X6_init_0 {G : GG} {b : Nat × Nat} {Q : Option VV → Hp → Prop} {v0 : Int} {h : Hp} (k : (h v0 (-1) = 7) ∧ (inI (h 0 0 + 1)) ∧ (1 ≤ b.1) ∧ (200 ≤ b.2) ∧ ∀ a7, a7 = h 0 0 + 1 → ∀ h1, h1 = nw h 22 200 → ∀ h2, h2 = wr h1 v0 0 a7 → (inI (h2 0 0 + 1)) ∧ (1 ≤ b.1 - 1) ∧ (5 ≤ b.2 - 200) ∧ ∀ a17, a17 = h2 0 0 + 1 → ∀ h3, h3 = nw h2 20 5 → ∀ h4, h4 = wr h3 v0 1 a17 → ∀ h5, h5 = wr h4 v0 2 0 → ∀ h6, h6 = wr h5 v0 3 0 → ∀ h7, h7 = wr h6 v0 4 0 → ∀ h8, h8 = wr h7 v0 5 (-1) → ∀ h9, h9 = wr h8 v0 6 0 → Q none h9) : AW G mm_X6_init b 0 [(0, vR v0)] [] h Q := by
  refine aw_aload_n 0 dX6_init_0 rfl rfl ?_
  obtain ⟨o1, k⟩ := k
  refine aw_use (fun _ _ oz2 => ?_)
  refine aw_obj lo_X6_3 dX6_init_1 (nz_s oz2 o1 (by decide)) ⟨by decide, Nat.le_of_ble_eq_true rfl⟩ ?_
  refine aw_aload_n 0 dX6_init_4 rfl rfl ?_
  refine aw_sipush dX6_init_5 ⟨by decide, by decide⟩ (by decide) ?_
  refine aw_use (fun _ _ oh3 => ?_)
  obtain ⟨o4, k⟩ := k
  obtain ⟨o5, k⟩ := k
  obtain ⟨o6, k⟩ := k
  refine aw_newa na_char dX6_init_8 (by decide) (by decide) o4 o5 o6 ?_
  refine aw_hq (fun a7 e8 h1 e9 => ?_)
  have k := k a7 e8 h1 e9
  have q10 := sh_f e9 e8
  have q11 := sh_n e9 oh3 o1 (by decide)
  refine aw_putR dX6_init_10 fl_X6_9 (fun q hq _ => by cases hq; exact ⟨rfl, rfl⟩) rfl rfl q11 ?_
  refine aw_hp (fun h2 e12 => ?_)
  have k := k h2 e12
  refine aw_aload_n 0 dX6_init_13 rfl rfl ?_
  refine aw_iconst dX6_init_14 ⟨by decide, by decide⟩ ?_
  refine aw_use (fun _ _ oh13 => ?_)
  obtain ⟨o14, k⟩ := k
  obtain ⟨o15, k⟩ := k
  obtain ⟨o16, k⟩ := k
  refine aw_newa na_int dX6_init_15 (by decide) (by decide) o14 o15 o16 ?_
  refine aw_hq (fun a17 e18 h3 e19 => ?_)
  have k := k a17 e18 h3 e19
  have q20 := sh_f e19 e18
  have q21 := sh_w e12 (by decide) q11
  have q22 := sh_n e19 oh13 q21 (by decide)
  refine aw_putR dX6_init_17 fl_X6_15 (fun q hq _ => by cases hq; exact ⟨rfl, rfl⟩) rfl rfl q22 ?_
  refine aw_hp (fun h4 e23 => ?_)
  have k := k h4 e23
  refine aw_aload_n 0 dX6_init_20 rfl rfl ?_
  refine aw_iconst dX6_init_21 ⟨by decide, by decide⟩ ?_
  have q24 := sh_w e23 (by decide) q22
  refine aw_putI dX6_init_22 fl_X6_19 (fun q hq hf => by cases hq; cases hf) rfl rfl q24 ?_
  refine aw_hp (fun h5 e25 => ?_)
  have k := k h5 e25
  refine aw_aload_n 0 dX6_init_25 rfl rfl ?_
  refine aw_iconst dX6_init_26 ⟨by decide, by decide⟩ ?_
  have q26 := sh_w e25 (by decide) q24
  refine aw_putI dX6_init_27 fl_X6_23 (fun q hq hf => by cases hq; cases hf) rfl rfl q26 ?_
  refine aw_hp (fun h6 e27 => ?_)
  have k := k h6 e27
  refine aw_aload_n 0 dX6_init_30 rfl rfl ?_
  refine aw_iconst dX6_init_31 ⟨by decide, by decide⟩ ?_
  have q28 := sh_w e27 (by decide) q26
  refine aw_putI dX6_init_32 fl_X6_26 (fun q hq hf => by cases hq; cases hf) rfl rfl q28 ?_
  refine aw_hp (fun h7 e29 => ?_)
  have k := k h7 e29
  refine aw_aload_n 0 dX6_init_35 rfl rfl ?_
  refine aw_iconst dX6_init_36 ⟨by decide, by decide⟩ ?_
  have q30 := sh_w e29 (by decide) q28
  refine aw_putI dX6_init_37 fl_X6_29 (fun q hq hf => by cases hq; cases hf) rfl rfl q30 ?_
  refine aw_hp (fun h8 e31 => ?_)
  have k := k h8 e31
  refine aw_aload_n 0 dX6_init_40 rfl rfl ?_
  refine aw_iconst dX6_init_41 ⟨by decide, by decide⟩ ?_
  have q32 := sh_w e31 (by decide) q30
  refine aw_putI dX6_init_42 fl_X6_32 (fun q hq hf => by cases hq; cases hf) rfl rfl q32 ?_
  refine aw_hp (fun h9 e33 => ?_)
  have k := k h9 e33
  exact aw_vret dX6_init_45 rfl k
theorem rn_X6_init {G : GG} {Q : Option VV → Hp → Prop} {v0 : Int} {h : Hp} (k : (h v0 (-1) = 7) ∧ (inI (h 0 0 + 1)) ∧ (1 ≤ 2) ∧ (200 ≤ 205) ∧ ∀ a7, a7 = h 0 0 + 1 → ∀ h1, h1 = nw h 22 200 → ∀ h2, h2 = wr h1 v0 0 a7 → (inI (h2 0 0 + 1)) ∧ (1 ≤ 2 - 1) ∧ (5 ≤ 205 - 200) ∧ ∀ a17, a17 = h2 0 0 + 1 → ∀ h3, h3 = nw h2 20 5 → ∀ h4, h4 = wr h3 v0 1 a17 → ∀ h5, h5 = wr h4 v0 2 0 → ∀ h6, h6 = wr h5 v0 3 0 → ∀ h7, h7 = wr h6 v0 4 0 → ∀ h8, h8 = wr h7 v0 5 (-1) → ∀ h9, h9 = wr h8 v0 6 0 → Q none h9) : Runs G mm_X6_init [vR v0] h Q := Runs.of (by decide +kernel) (Nat.le_of_ble_eq_true rfl) (sg_X6_init_0 (b := (2, 205)) k)
set_option maxRecDepth 20000 in
theorem sg_X6_isAlike_0 {G : GG} {b : Nat × Nat} {Q : Option VV → Hp → Prop} {v0 v1 : Int} {h : Hp} (k : ((¬ (97 ≤ v0 ∧ v0 ≤ 122)) → Q (some (vI (b2i (48 ≤ v1 ∧ v1 ≤ 57)))) h) ∧ ((97 ≤ v0 ∧ v0 ≤ 122) → Q (some (vI (b2i (97 ≤ v1 ∧ v1 ≤ 122)))) h)) : AW G mm_X6_isAlike b 0 [(0, vI v0), (1, vI v1)] [] h Q := by
  refine aw_iload_n 0 dX6_isAlike_0 rfl rfl ?_
  refine aw_callS (M' := mm_X6_isSmall) [vI v0] [] lk_X6_53 dX6_isAlike_1 rfl (Nat.le_of_ble_eq_true rfl) ⟨by decide, by decide, Nat.zero_le _, Nat.zero_le _⟩ ?_
  refine pu_X6_isSmall ?_
  refine aw_if_eq (tgt := 14) dX6_isAlike_4 (by decide) (fun hc => ?_) (fun hc => ?_)
  · have k := k.1 (b2i_0.mp hc)
    refine aw_iload_n 1 dX6_isAlike_14 rfl rfl ?_
    refine aw_callS (M' := mm_X6_isDigit) [vI v1] [] lk_X6_57 dX6_isAlike_15 rfl (Nat.le_of_ble_eq_true rfl) ⟨by decide, by decide, Nat.zero_le _, Nat.zero_le _⟩ ?_
    refine pu_X6_isDigit ?_
    exact aw_zret dX6_isAlike_18 rfl b2i_or k
  · have k := k.2 (b2i_n.mp hc)
    refine aw_iload_n 1 dX6_isAlike_7 rfl rfl ?_
    refine aw_callS (M' := mm_X6_isSmall) [vI v1] [] lk_X6_53 dX6_isAlike_8 rfl (Nat.le_of_ble_eq_true rfl) ⟨by decide, by decide, Nat.zero_le _, Nat.zero_le _⟩ ?_
    refine pu_X6_isSmall ?_
    refine aw_goto (tgt := 18) dX6_isAlike_11 (by decide) ?_
    exact aw_zret dX6_isAlike_18 rfl b2i_or k
theorem rn_X6_isAlike {G : GG} {Q : Option VV → Hp → Prop} {v0 v1 : Int} {h : Hp} (k : ((¬ (97 ≤ v0 ∧ v0 ≤ 122)) → Q (some (vI (b2i (48 ≤ v1 ∧ v1 ≤ 57)))) h) ∧ ((97 ≤ v0 ∧ v0 ≤ 122) → Q (some (vI (b2i (97 ≤ v1 ∧ v1 ≤ 122)))) h)) : Runs G mm_X6_isAlike [vI v0, vI v1] h Q := Runs.of (by decide +kernel) (Nat.le_of_ble_eq_true rfl) (sg_X6_isAlike_0 (b := (0, 0)) k)
set_option maxRecDepth 20000 in
theorem sg_X6_isToken_0 {G : GG} {b : Nat × Nat} {Q : Option VV → Hp → Prop} {v0 v1 : Int} {h : Hp} (k : (h v0 (-1) = 7) ∧ (inI ((h v0 4) - (h v0 3))) ∧ (∃ i : Nat, i < 6 ∧ v1 = -2 - (i : Int)) ∧ Runs G mm_J0_length_8abf5 [vR v1] h (fun r h' => AW G mm_X6_isToken b 13 [(0, vR v0), (1, vR v1)] (r.toList ++ [vI ((h v0 4) - (h v0 3))]) h' Q)) : AW G mm_X6_isToken b 0 [(0, vR v0), (1, vR v1)] [] h Q := by
  refine aw_aload_n 0 dX6_isToken_0 rfl rfl ?_
  obtain ⟨o1, k⟩ := k
  refine aw_getI dX6_isToken_1 fl_X6_26 rfl o1 (x := (h v0 4)) rfl ?_
  refine aw_aload_n 0 dX6_isToken_4 rfl rfl ?_
  refine aw_getI dX6_isToken_5 fl_X6_23 rfl o1 (x := (h v0 3)) rfl ?_
  obtain ⟨o2, k⟩ := k
  refine aw_isub dX6_isToken_8 o2 ?_
  refine aw_aload_n 1 dX6_isToken_9 rfl rfl ?_
  obtain ⟨o3, k⟩ := k
  refine aw_callVT (M' := mm_J0_length_8abf5) [] [vI ((h v0 4) - (h v0 3))] lk_X6_80 rfl dX6_isToken_10 rfl (Nat.le_of_ble_eq_true rfl) ⟨by decide, by decide, Nat.zero_le _, Nat.zero_le _⟩ o3 ?_
  exact k
theorem rn_X6_isToken {G : GG} {Q : Option VV → Hp → Prop} {v0 v1 : Int} {h : Hp} (k : (h v0 (-1) = 7) ∧ (inI ((h v0 4) - (h v0 3))) ∧ (∃ i : Nat, i < 6 ∧ v1 = -2 - (i : Int)) ∧ Runs G mm_J0_length_8abf5 [vR v1] h (fun r h' => AW G mm_X6_isToken (0, 0) 13 [(0, vR v0), (1, vR v1)] (r.toList ++ [vI ((h v0 4) - (h v0 3))]) h' Q)) : Runs G mm_X6_isToken [vR v0, vR v1] h Q := Runs.of (by decide +kernel) (Nat.le_of_ble_eq_true rfl) (sg_X6_isToken_0 (b := (0, 0)) k)
set_option maxRecDepth 20000 in
theorem sg_X6_isToken_13 {G : GG} {b : Nat × Nat} {Q : Option VV → Hp → Prop} {v0 v1 s0 s1 : Int} {h : Hp} (k : ((s1 = s0) → AW G mm_X6_isToken b 20 [(0, vR v0), (1, vR v1), (2, vI 0)] [] h Q) ∧ ((¬ (s1 = s0)) → Q (some (vI 0)) h)) : AW G mm_X6_isToken b 13 [(0, vR v0), (1, vR v1)] [vI s0, vI s1] h Q := by
  refine aw_icmp_eq (tgt := 18) dX6_isToken_13 (by decide) (fun hc => ?_) (fun hc => ?_)
  · have k := k.1 hc
    refine aw_iconst dX6_isToken_18 ⟨by decide, by decide⟩ ?_
    refine aw_istore_n dX6_isToken_19 rfl (by decide) ?_
    exact aw_sub [1, 2, 0] rfl k
  · have k := k.2 hc
    refine aw_iconst dX6_isToken_16 ⟨by decide, by decide⟩ ?_
    exact aw_zret dX6_isToken_17 rfl (by decide) k
set_option maxRecDepth 20000 in
theorem sg_X6_isToken_20 {G : GG} {b : Nat × Nat} {Q : Option VV → Hp → Prop} {v0 v1 v2 : Int} {h : Hp} (k : (∃ i : Nat, i < 6 ∧ v1 = -2 - (i : Int)) ∧ Runs G mm_J0_length_8abf5 [vR v1] h (fun r h' => AW G mm_X6_isToken b 25 [(0, vR v0), (1, vR v1), (2, vI v2)] (r.toList ++ [vI v2]) h' Q)) : AW G mm_X6_isToken b 20 [(0, vR v0), (1, vR v1), (2, vI v2)] [] h Q := by
  refine aw_iload_n 2 dX6_isToken_20 rfl rfl ?_
  refine aw_aload_n 1 dX6_isToken_21 rfl rfl ?_
  obtain ⟨o1, k⟩ := k
  refine aw_callVT (M' := mm_J0_length_8abf5) [] [vI v2] lk_X6_80 rfl dX6_isToken_22 rfl (Nat.le_of_ble_eq_true rfl) ⟨by decide, by decide, Nat.zero_le _, Nat.zero_le _⟩ o1 ?_
  exact k
set_option maxRecDepth 20000 in
theorem sg_X6_isToken_25 {G : GG} {b : Nat × Nat} {Q : Option VV → Hp → Prop} {v0 v1 v2 s0 s1 : Int} {h : Hp} (k : ((s0 ≤ s1) → Q (some (vI 1)) h) ∧ ((¬ (s0 ≤ s1)) → (h v0 (-1) = 7) ∧ (inI ((h v0 3) + v2)) ∧ (h (h v0 0) (-1) = 22) ∧ (0 ≤ ((h v0 3) + v2)) ∧ (((h v0 3) + v2) < h (h v0 0) (-2)) ∧ (∃ i : Nat, i < 6 ∧ v1 = -2 - (i : Int)) ∧ Runs G mm_J0_charAt_5068e [vR v1, vI v2] h (fun r h' => AW G mm_X6_isToken b 44 [(0, vR v0), (1, vR v1), (2, vI v2)] (r.toList ++ [vI (h (h v0 0) ((h v0 3) + v2))]) h' Q))) : AW G mm_X6_isToken b 25 [(0, vR v0), (1, vR v1), (2, vI v2)] [vI s0, vI s1] h Q := by
  refine aw_icmp_ge (tgt := 55) dX6_isToken_25 (by decide) (fun hc => ?_) (fun hc => ?_)
  · have k := k.1 hc
    refine aw_iconst dX6_isToken_55 ⟨by decide, by decide⟩ ?_
    exact aw_zret dX6_isToken_56 rfl (by decide) k
  · have k := k.2 hc
    refine aw_aload_n 0 dX6_isToken_28 rfl rfl ?_
    obtain ⟨o1, k⟩ := k
    refine aw_getR dX6_isToken_29 fl_X6_9 rfl o1 (x := (h v0 0)) rfl ?_
    refine aw_aload_n 0 dX6_isToken_32 rfl rfl ?_
    refine aw_getI dX6_isToken_33 fl_X6_23 rfl o1 (x := (h v0 3)) rfl ?_
    refine aw_iload_n 2 dX6_isToken_36 rfl rfl ?_
    obtain ⟨o2, k⟩ := k
    refine aw_iadd dX6_isToken_37 o2 ?_
    obtain ⟨o3, k⟩ := k
    obtain ⟨o4, k⟩ := k
    obtain ⟨o5, k⟩ := k
    refine aw_cald dX6_isToken_38 o3 o4 o5 (x := (h (h v0 0) ((h v0 3) + v2))) rfl ?_
    refine aw_aload_n 1 dX6_isToken_39 rfl rfl ?_
    refine aw_iload_n 2 dX6_isToken_40 rfl rfl ?_
    obtain ⟨o6, k⟩ := k
    refine aw_callVT (M' := mm_J0_charAt_5068e) [vI v2] [vI (h (h v0 0) ((h v0 3) + v2))] lk_X6_84 rfl dX6_isToken_41 rfl (Nat.le_of_ble_eq_true rfl) ⟨by decide, by decide, Nat.zero_le _, Nat.zero_le _⟩ o6 ?_
    exact k
set_option maxRecDepth 20000 in
theorem sg_X6_isToken_44 {G : GG} {b : Nat × Nat} {Q : Option VV → Hp → Prop} {v0 v1 v2 s0 s1 : Int} {h : Hp} (k : ((s1 = s0) → (inI (v2 + 1)) ∧ AW G mm_X6_isToken b 20 [(0, vR v0), (1, vR v1), (2, vI (v2 + 1))] [] h Q) ∧ ((¬ (s1 = s0)) → Q (some (vI 0)) h)) : AW G mm_X6_isToken b 44 [(0, vR v0), (1, vR v1), (2, vI v2)] [vI s0, vI s1] h Q := by
  refine aw_icmp_eq (tgt := 49) dX6_isToken_44 (by decide) (fun hc => ?_) (fun hc => ?_)
  · have k := k.1 hc
    obtain ⟨o1, k⟩ := k
    refine aw_iinc 2 dX6_isToken_49 rfl o1 (by decide) ?_
    refine aw_goto (tgt := 20) dX6_isToken_52 (by decide) ?_
    exact aw_sub [1, 2, 0] rfl k
  · have k := k.2 hc
    refine aw_iconst dX6_isToken_47 ⟨by decide, by decide⟩ ?_
    exact aw_zret dX6_isToken_48 rfl (by decide) k
set_option maxRecDepth 20000 in
theorem sg_X6_nextToken_0 {G : GG} {b : Nat × Nat} {Q : Option VV → Hp → Prop} {v0 : Int} {h : Hp} (k : (h v0 (-1) = 7) ∧ ∀ h1, h1 = wr h v0 3 (h v0 4) → AW G mm_X6_nextToken b 8 [(0, vR v0)] [] h1 Q) : AW G mm_X6_nextToken b 0 [(0, vR v0)] [] h Q := by
  refine aw_aload_n 0 dX6_nextToken_0 rfl rfl ?_
  refine aw_aload_n 0 dX6_nextToken_1 rfl rfl ?_
  obtain ⟨o1, k⟩ := k
  refine aw_getI dX6_nextToken_2 fl_X6_26 rfl o1 (x := (h v0 4)) rfl ?_
  refine aw_putI dX6_nextToken_5 fl_X6_23 (fun q hq hf => by cases hq; cases hf) rfl rfl o1 ?_
  refine aw_hp (fun h1 e2 => ?_)
  have k := k h1 e2
  exact k
theorem rn_X6_nextToken {G : GG} {Q : Option VV → Hp → Prop} {v0 : Int} {h : Hp} (k : (h v0 (-1) = 7) ∧ ∀ h1, h1 = wr h v0 3 (h v0 4) → AW G mm_X6_nextToken (0, 0) 8 [(0, vR v0)] [] h1 Q) : Runs G mm_X6_nextToken [vR v0] h Q := Runs.of (by decide +kernel) (Nat.le_of_ble_eq_true rfl) (sg_X6_nextToken_0 (b := (0, 0)) k)
set_option maxRecDepth 20000 in
theorem sg_X6_nextToken_8 {G : GG} {b : Nat × Nat} {Q : Option VV → Hp → Prop} {v0 : Int} {h : Hp} (k : (h v0 (-1) = 7) ∧ (((h v0 2) ≤ (h v0 3)) → ∀ h1, h1 = wr h v0 4 (h v0 3) → (((h v0 3) < (h v0 2)) → (h (h v0 0) (-1) = 22) ∧ (0 ≤ (h v0 3)) ∧ ((h v0 3) < h (h v0 0) (-2)) ∧ (inI ((h v0 3) + 1)) ∧ ∀ h2, h2 = wr h1 v0 4 ((h v0 3) + 1) → ((97 ≤ (h (h v0 0) (h v0 3)) ∧ (h (h v0 0) (h v0 3)) ≤ 122) → AW G mm_X6_nextToken b 101 [(0, vR v0), (1, vI (h (h v0 0) (h v0 3)))] [] h2 Q) ∧ ((¬ (97 ≤ (h (h v0 0) (h v0 3)) ∧ (h (h v0 0) (h v0 3)) ≤ 122)) → ((48 ≤ (h (h v0 0) (h v0 3)) ∧ (h (h v0 0) (h v0 3)) ≤ 57) → AW G mm_X6_nextToken b 101 [(0, vR v0), (1, vI (h (h v0 0) (h v0 3)))] [] h2 Q) ∧ ((¬ (48 ≤ (h (h v0 0) (h v0 3)) ∧ (h (h v0 0) (h v0 3)) ≤ 57)) → Q none h2))) ∧ ((¬ ((h v0 3) < (h v0 2))) → Q none h1)) ∧ ((¬ ((h v0 2) ≤ (h v0 3))) → (h (h v0 0) (-1) = 22) ∧ (0 ≤ (h v0 3)) ∧ ((h v0 3) < h (h v0 0) (-2)) ∧ ((¬ (h (h v0 0) (h v0 3)) = 32) → ∀ h1, h1 = wr h v0 4 (h v0 3) → (((h v0 3) < (h v0 2)) → (inI ((h v0 3) + 1)) ∧ ∀ h2, h2 = wr h1 v0 4 ((h v0 3) + 1) → ((97 ≤ (h (h v0 0) (h v0 3)) ∧ (h (h v0 0) (h v0 3)) ≤ 122) → AW G mm_X6_nextToken b 101 [(0, vR v0), (1, vI (h (h v0 0) (h v0 3)))] [] h2 Q) ∧ ((¬ (97 ≤ (h (h v0 0) (h v0 3)) ∧ (h (h v0 0) (h v0 3)) ≤ 122)) → ((48 ≤ (h (h v0 0) (h v0 3)) ∧ (h (h v0 0) (h v0 3)) ≤ 57) → AW G mm_X6_nextToken b 101 [(0, vR v0), (1, vI (h (h v0 0) (h v0 3)))] [] h2 Q) ∧ ((¬ (48 ≤ (h (h v0 0) (h v0 3)) ∧ (h (h v0 0) (h v0 3)) ≤ 57)) → Q none h2))) ∧ ((¬ ((h v0 3) < (h v0 2))) → Q none h1)) ∧ (((h (h v0 0) (h v0 3)) = 32) → (inI ((h v0 3) + 1)) ∧ ∀ h1, h1 = wr h v0 3 ((h v0 3) + 1) → AW G mm_X6_nextToken b 8 [(0, vR v0)] [] h1 Q))) : AW G mm_X6_nextToken b 8 [(0, vR v0)] [] h Q := by
  refine aw_aload_n 0 dX6_nextToken_8 rfl rfl ?_
  obtain ⟨o1, k⟩ := k
  refine aw_getI dX6_nextToken_9 fl_X6_23 rfl o1 (x := (h v0 3)) rfl ?_
  refine aw_aload_n 0 dX6_nextToken_12 rfl rfl ?_
  refine aw_getI dX6_nextToken_13 fl_X6_19 rfl o1 (x := (h v0 2)) rfl ?_
  refine aw_icmp_ge (tgt := 46) dX6_nextToken_16 (by decide) (fun hc => ?_) (fun hc => ?_)
  · have k := k.1 hc
    refine aw_aload_n 0 dX6_nextToken_46 rfl rfl ?_
    refine aw_aload_n 0 dX6_nextToken_47 rfl rfl ?_
    refine aw_getI dX6_nextToken_48 fl_X6_23 rfl o1 (x := (h v0 3)) rfl ?_
    refine aw_putI dX6_nextToken_51 fl_X6_26 (fun q hq hf => by cases hq; cases hf) rfl rfl o1 ?_
    refine aw_hp (fun h1 e2 => ?_)
    have k := k h1 e2
    refine aw_aload_n 0 dX6_nextToken_54 rfl rfl ?_
    have q3 := sh_w e2 (by decide) o1
    refine aw_getI dX6_nextToken_55 fl_X6_23 rfl q3 (x := (h v0 3)) (rd_k e2 3 (by decide)) ?_
    refine aw_aload_n 0 dX6_nextToken_58 rfl rfl ?_
    refine aw_getI dX6_nextToken_59 fl_X6_19 rfl q3 (x := (h v0 2)) (rd_k e2 2 (by decide)) ?_
    refine aw_icmp_lt (tgt := 66) dX6_nextToken_62 (by decide) (fun hc => ?_) (fun hc => ?_)
    · have k := k.1 hc
      refine aw_aload_n 0 dX6_nextToken_66 rfl rfl ?_
      refine aw_getR dX6_nextToken_67 fl_X6_9 rfl q3 (x := (h v0 0)) (rd_k e2 0 (by decide)) ?_
      refine aw_aload_n 0 dX6_nextToken_70 rfl rfl ?_
      refine aw_getI dX6_nextToken_71 fl_X6_23 rfl q3 (x := (h v0 3)) (rd_k e2 3 (by decide)) ?_
      obtain ⟨o4, k⟩ := k
      obtain ⟨o5, k⟩ := k
      obtain ⟨o6, k⟩ := k
      have q7 := sh_w e2 (by decide) o4
      refine aw_cald dX6_nextToken_74 q7 o5 (lt_l (ln_w e2 (h v0 0) (by decide)) o6) (x := (h (h v0 0) (h v0 3))) (rd_a e2 (h v0 0) (h v0 3) (ne_sh o1 o4 (by decide))) ?_
      refine aw_istore_n dX6_nextToken_75 rfl (by decide) ?_
      refine aw_aload_n 1 dX6_nextToken_76 rfl rfl ?_
      refine aw_dup dX6_nextToken_77 rfl ?_
      refine aw_getI dX6_nextToken_78 fl_X6_26 rfl q3 (x := (h v0 3)) (rd_e e2) ?_
      refine aw_iconst dX6_nextToken_81 ⟨by decide, by decide⟩ ?_
      obtain ⟨o8, k⟩ := k
      refine aw_iadd dX6_nextToken_82 o8 ?_
      refine aw_putI dX6_nextToken_83 fl_X6_26 (fun q hq hf => by cases hq; cases hf) rfl rfl q3 ?_
      refine aw_hp (fun h2 e9 => ?_)
      have k := k h2 e9
      refine aw_iload_n 0 dX6_nextToken_86 rfl rfl ?_
      refine aw_callS (M' := mm_X6_isSmall) [vI (h (h v0 0) (h v0 3))] [] lk_X6_53 dX6_nextToken_87 rfl (Nat.le_of_ble_eq_true rfl) ⟨by decide, by decide, Nat.zero_le _, Nat.zero_le _⟩ ?_
      refine pu_X6_isSmall ?_
      refine aw_if_ne (tgt := 101) dX6_nextToken_90 (by decide) (fun hc => ?_) (fun hc => ?_)
      · have k := k.1 (b2i_n.mp hc)
        exact aw_sub [1, 0] rfl k
      · have k := k.2 (b2i_0.mp hc)
        refine aw_iload_n 0 dX6_nextToken_93 rfl rfl ?_
        refine aw_callS (M' := mm_X6_isDigit) [vI (h (h v0 0) (h v0 3))] [] lk_X6_57 dX6_nextToken_94 rfl (Nat.le_of_ble_eq_true rfl) ⟨by decide, by decide, Nat.zero_le _, Nat.zero_le _⟩ ?_
        refine pu_X6_isDigit ?_
        refine aw_if_ne (tgt := 101) dX6_nextToken_97 (by decide) (fun hc => ?_) (fun hc => ?_)
        · have k := k.1 (b2i_n.mp hc)
          exact aw_sub [1, 0] rfl k
        · have k := k.2 (b2i_0.mp hc)
          exact aw_vret dX6_nextToken_100 rfl k
    · have k := k.2 hc
      exact aw_vret dX6_nextToken_65 rfl k
  · have k := k.2 hc
    refine aw_aload_n 0 dX6_nextToken_19 rfl rfl ?_
    refine aw_getR dX6_nextToken_20 fl_X6_9 rfl o1 (x := (h v0 0)) rfl ?_
    refine aw_aload_n 0 dX6_nextToken_23 rfl rfl ?_
    refine aw_getI dX6_nextToken_24 fl_X6_23 rfl o1 (x := (h v0 3)) rfl ?_
    obtain ⟨o10, k⟩ := k
    obtain ⟨o11, k⟩ := k
    obtain ⟨o12, k⟩ := k
    refine aw_cald dX6_nextToken_27 o10 o11 o12 (x := (h (h v0 0) (h v0 3))) rfl ?_
    refine aw_bipush dX6_nextToken_28 ⟨by decide, by decide⟩ (by decide) ?_
    refine aw_icmp_ne (tgt := 46) dX6_nextToken_30 (by decide) (fun hc => ?_) (fun hc => ?_)
    · have k := k.1 hc
      refine aw_aload_n 0 dX6_nextToken_46 rfl rfl ?_
      refine aw_aload_n 0 dX6_nextToken_47 rfl rfl ?_
      refine aw_getI dX6_nextToken_48 fl_X6_23 rfl o1 (x := (h v0 3)) rfl ?_
      refine aw_putI dX6_nextToken_51 fl_X6_26 (fun q hq hf => by cases hq; cases hf) rfl rfl o1 ?_
      refine aw_hp (fun h1 e13 => ?_)
      have k := k h1 e13
      refine aw_aload_n 0 dX6_nextToken_54 rfl rfl ?_
      have q14 := sh_w e13 (by decide) o1
      refine aw_getI dX6_nextToken_55 fl_X6_23 rfl q14 (x := (h v0 3)) (rd_k e13 3 (by decide)) ?_
      refine aw_aload_n 0 dX6_nextToken_58 rfl rfl ?_
      refine aw_getI dX6_nextToken_59 fl_X6_19 rfl q14 (x := (h v0 2)) (rd_k e13 2 (by decide)) ?_
      refine aw_icmp_lt (tgt := 66) dX6_nextToken_62 (by decide) (fun hc => ?_) (fun hc => ?_)
      · have k := k.1 hc
        refine aw_aload_n 0 dX6_nextToken_66 rfl rfl ?_
        refine aw_getR dX6_nextToken_67 fl_X6_9 rfl q14 (x := (h v0 0)) (rd_k e13 0 (by decide)) ?_
        refine aw_aload_n 0 dX6_nextToken_70 rfl rfl ?_
        refine aw_getI dX6_nextToken_71 fl_X6_23 rfl q14 (x := (h v0 3)) (rd_k e13 3 (by decide)) ?_
        have q15 := sh_w e13 (by decide) o10
        refine aw_cald dX6_nextToken_74 q15 o11 (lt_l (ln_w e13 (h v0 0) (by decide)) o12) (x := (h (h v0 0) (h v0 3))) (rd_a e13 (h v0 0) (h v0 3) (ne_sh o1 o10 (by decide))) ?_
        refine aw_istore_n dX6_nextToken_75 rfl (by decide) ?_
        refine aw_aload_n 1 dX6_nextToken_76 rfl rfl ?_
        refine aw_dup dX6_nextToken_77 rfl ?_
        refine aw_getI dX6_nextToken_78 fl_X6_26 rfl q14 (x := (h v0 3)) (rd_e e13) ?_
        refine aw_iconst dX6_nextToken_81 ⟨by decide, by decide⟩ ?_
        obtain ⟨o16, k⟩ := k
        refine aw_iadd dX6_nextToken_82 o16 ?_
        refine aw_putI dX6_nextToken_83 fl_X6_26 (fun q hq hf => by cases hq; cases hf) rfl rfl q14 ?_
        refine aw_hp (fun h2 e17 => ?_)
        have k := k h2 e17
        refine aw_iload_n 0 dX6_nextToken_86 rfl rfl ?_
        refine aw_callS (M' := mm_X6_isSmall) [vI (h (h v0 0) (h v0 3))] [] lk_X6_53 dX6_nextToken_87 rfl (Nat.le_of_ble_eq_true rfl) ⟨by decide, by decide, Nat.zero_le _, Nat.zero_le _⟩ ?_
        refine pu_X6_isSmall ?_
        refine aw_if_ne (tgt := 101) dX6_nextToken_90 (by decide) (fun hc => ?_) (fun hc => ?_)
        · have k := k.1 (b2i_n.mp hc)
          exact aw_sub [1, 0] rfl k
        · have k := k.2 (b2i_0.mp hc)
          refine aw_iload_n 0 dX6_nextToken_93 rfl rfl ?_
          refine aw_callS (M' := mm_X6_isDigit) [vI (h (h v0 0) (h v0 3))] [] lk_X6_57 dX6_nextToken_94 rfl (Nat.le_of_ble_eq_true rfl) ⟨by decide, by decide, Nat.zero_le _, Nat.zero_le _⟩ ?_
          refine pu_X6_isDigit ?_
          refine aw_if_ne (tgt := 101) dX6_nextToken_97 (by decide) (fun hc => ?_) (fun hc => ?_)
          · have k := k.1 (b2i_n.mp hc)
            exact aw_sub [1, 0] rfl k
          · have k := k.2 (b2i_0.mp hc)
            exact aw_vret dX6_nextToken_100 rfl k
      · have k := k.2 hc
        exact aw_vret dX6_nextToken_65 rfl k
    · have k := k.2 hc
      refine aw_aload_n 0 dX6_nextToken_33 rfl rfl ?_
      refine aw_dup dX6_nextToken_34 rfl ?_
      refine aw_getI dX6_nextToken_35 fl_X6_23 rfl o1 (x := (h v0 3)) rfl ?_
      refine aw_iconst dX6_nextToken_38 ⟨by decide, by decide⟩ ?_
      obtain ⟨o18, k⟩ := k
      refine aw_iadd dX6_nextToken_39 o18 ?_
      refine aw_putI dX6_nextToken_40 fl_X6_23 (fun q hq hf => by cases hq; cases hf) rfl rfl o1 ?_
      refine aw_hp (fun h1 e19 => ?_)
      have k := k h1 e19
      refine aw_goto (tgt := 8) dX6_nextToken_43 (by decide) ?_
      exact k
set_option maxRecDepth 20000 in
theorem sg_X6_nextToken_101 {G : GG} {b : Nat × Nat} {Q : Option VV → Hp → Prop} {v0 v1 : Int} {h : Hp} (k : (h v0 (-1) = 7) ∧ (((h v0 2) ≤ (h v0 4)) → Q none h) ∧ ((¬ ((h v0 2) ≤ (h v0 4))) → (h (h v0 0) (-1) = 22) ∧ (0 ≤ (h v0 4)) ∧ ((h v0 4) < h (h v0 0) (-2)) ∧ Runs G mm_X6_isAlike [vI v1, vI (h (h v0 0) (h v0 4))] h (fun r h' => AW G mm_X6_nextToken b 125 [(0, vR v0), (1, vI v1)] (r.toList ++ []) h' Q))) : AW G mm_X6_nextToken b 101 [(0, vR v0), (1, vI v1)] [] h Q := by
  refine aw_aload_n 0 dX6_nextToken_101 rfl rfl ?_
  obtain ⟨o1, k⟩ := k
  refine aw_getI dX6_nextToken_102 fl_X6_26 rfl o1 (x := (h v0 4)) rfl ?_
  refine aw_aload_n 0 dX6_nextToken_105 rfl rfl ?_
  refine aw_getI dX6_nextToken_106 fl_X6_19 rfl o1 (x := (h v0 2)) rfl ?_
  refine aw_icmp_ge (tgt := 141) dX6_nextToken_109 (by decide) (fun hc => ?_) (fun hc => ?_)
  · have k := k.1 hc
    exact aw_vret dX6_nextToken_141 rfl k
  · have k := k.2 hc
    refine aw_iload_n 1 dX6_nextToken_112 rfl rfl ?_
    refine aw_aload_n 0 dX6_nextToken_113 rfl rfl ?_
    refine aw_getR dX6_nextToken_114 fl_X6_9 rfl o1 (x := (h v0 0)) rfl ?_
    refine aw_aload_n 0 dX6_nextToken_117 rfl rfl ?_
    refine aw_getI dX6_nextToken_118 fl_X6_26 rfl o1 (x := (h v0 4)) rfl ?_
    obtain ⟨o2, k⟩ := k
    obtain ⟨o3, k⟩ := k
    obtain ⟨o4, k⟩ := k
    refine aw_cald dX6_nextToken_121 o2 o3 o4 (x := (h (h v0 0) (h v0 4))) rfl ?_
    refine aw_callS (M' := mm_X6_isAlike) [vI v1, vI (h (h v0 0) (h v0 4))] [] lk_X6_60 dX6_nextToken_122 rfl (Nat.le_of_ble_eq_true rfl) ⟨by decide, by decide, Nat.zero_le _, Nat.zero_le _⟩ ?_
    exact k
set_option maxRecDepth 20000 in
theorem sg_X6_nextToken_125 {G : GG} {b : Nat × Nat} {Q : Option VV → Hp → Prop} {v0 v1 s0 : Int} {h : Hp} (k : ((s0 = 0) → Q none h) ∧ ((¬ (s0 = 0)) → (h v0 (-1) = 7) ∧ (inI ((h v0 4) + 1)) ∧ ∀ h1, h1 = wr h v0 4 ((h v0 4) + 1) → AW G mm_X6_nextToken b 101 [(0, vR v0), (1, vI v1)] [] h1 Q)) : AW G mm_X6_nextToken b 125 [(0, vR v0), (1, vI v1)] [vI s0] h Q := by
  refine aw_if_eq (tgt := 141) dX6_nextToken_125 (by decide) (fun hc => ?_) (fun hc => ?_)
  · have k := k.1 hc
    exact aw_vret dX6_nextToken_141 rfl k
  · have k := k.2 hc
    refine aw_aload_n 0 dX6_nextToken_128 rfl rfl ?_
    refine aw_dup dX6_nextToken_129 rfl ?_
    obtain ⟨o1, k⟩ := k
    refine aw_getI dX6_nextToken_130 fl_X6_26 rfl o1 (x := (h v0 4)) rfl ?_
    refine aw_iconst dX6_nextToken_133 ⟨by decide, by decide⟩ ?_
    obtain ⟨o2, k⟩ := k
    refine aw_iadd dX6_nextToken_134 o2 ?_
    refine aw_putI dX6_nextToken_135 fl_X6_26 (fun q hq hf => by cases hq; cases hf) rfl rfl o1 ?_
    refine aw_hp (fun h1 e3 => ?_)
    have k := k h1 e3
    refine aw_goto (tgt := 101) dX6_nextToken_138 (by decide) ?_
    exact k
set_option maxRecDepth 20000 in
theorem sg_X6_readClause_0 {G : GG} {b : Nat × Nat} {Q : Option VV → Hp → Prop} {v0 : Int} {h : Hp} (k : (h v0 (-1) = 7) ∧ Runs G mm_X6_nextToken [vR v0] h (fun r h' => AW G mm_X6_readClause b 4 [(0, vR v0)] (r.toList ++ []) h' Q)) : AW G mm_X6_readClause b 0 [(0, vR v0)] [] h Q := by
  refine aw_aload_n 0 dX6_readClause_0 rfl rfl ?_
  obtain ⟨o1, k⟩ := k
  refine aw_callV (M' := mm_X6_nextToken) 6 [] [] lk_X6_42 ⟨_, rfl, rfl⟩ dX6_readClause_1 rfl (Nat.le_of_ble_eq_true rfl) ⟨by decide, by decide, Nat.zero_le _, Nat.zero_le _⟩ o1 ?_
  exact k
theorem rn_X6_readClause {G : GG} {Q : Option VV → Hp → Prop} {v0 : Int} {h : Hp} (k : (h v0 (-1) = 7) ∧ Runs G mm_X6_nextToken [vR v0] h (fun r h' => AW G mm_X6_readClause (0, 0) 4 [(0, vR v0)] (r.toList ++ []) h' Q)) : Runs G mm_X6_readClause [vR v0] h Q := Runs.of (by decide +kernel) (Nat.le_of_ble_eq_true rfl) (sg_X6_readClause_0 (b := (0, 0)) k)
set_option maxRecDepth 20000 in
theorem sg_X6_readClause_4 {G : GG} {b : Nat × Nat} {Q : Option VV → Hp → Prop} {v0 : Int} {h : Hp} (k : (h v0 (-1) = 7) ∧ Runs G mm_X6_wordOfToken [vR v0] h (fun r h' => AW G mm_X6_readClause b 9 [(0, vR v0)] (r.toList ++ [vR v0]) h' Q)) : AW G mm_X6_readClause b 4 [(0, vR v0)] [] h Q := by
  refine aw_aload_n 0 dX6_readClause_4 rfl rfl ?_
  refine aw_aload_n 0 dX6_readClause_5 rfl rfl ?_
  obtain ⟨o1, k⟩ := k
  refine aw_callV (M' := mm_X6_wordOfToken) 6 [] [vR v0] lk_X6_45 ⟨_, rfl, rfl⟩ dX6_readClause_6 rfl (Nat.le_of_ble_eq_true rfl) ⟨by decide, by decide, Nat.zero_le _, Nat.zero_le _⟩ o1 ?_
  exact k
set_option maxRecDepth 20000 in
theorem sg_X6_readClause_9 {G : GG} {b : Nat × Nat} {Q : Option VV → Hp → Prop} {v0 s0 s1 : Int} {h : Hp} (k : (h s1 (-1) = 7) ∧ ∀ h1, h1 = wr h s1 5 s0 → (h v0 (-1) = 7) ∧ (((h1 v0 5) = 0) → Q (some (vI 1)) h1) ∧ (((h1 v0 5) = 1) → Runs G mm_X6_readNumber [vR v0, vI 0, vI 0, vI 1] h1 (fun r h' => AW G mm_X6_readClause b 65 [(0, vR v0)] (r.toList ++ []) h' Q)) ∧ (((h1 v0 5) = 2) → Runs G mm_X6_readNumber [vR v0, vI 0, vI 0, vI 1] h1 (fun r h' => AW G mm_X6_readClause b 131 [(0, vR v0)] (r.toList ++ []) h' Q)) ∧ (((h1 v0 5) = 3) → Runs G mm_X6_readNumber [vR v0, vI 0, vI 0, vI 1] h1 (fun r h' => AW G mm_X6_readClause b 170 [(0, vR v0)] (r.toList ++ []) h' Q)) ∧ (((h1 v0 5) = 4) → Runs G mm_X6_readNumber [vR v0, vI 0, vI 0, vI 3] h1 (fun r h' => AW G mm_X6_readClause b 197 [(0, vR v0)] (r.toList ++ []) h' Q)) ∧ (((h1 v0 5) = 5) → Runs G mm_X6_readNumber [vR v0, vI 0, vI 0, vI 1] h1 (fun r h' => AW G mm_X6_readClause b 234 [] (r.toList ++ []) h' Q)) ∧ (((h1 v0 5) < 0 ∨ 5 < (h1 v0 5)) → Q (some (vI 0)) h1)) : AW G mm_X6_readClause b 9 [(0, vR v0)] [vI s0, vR s1] h Q := by
  obtain ⟨o1, k⟩ := k
  refine aw_putI dX6_readClause_9 fl_X6_29 (fun q hq hf => by cases hq; cases hf) rfl rfl o1 ?_
  refine aw_hp (fun h1 e2 => ?_)
  have k := k h1 e2
  refine aw_aload_n 0 dX6_readClause_12 rfl rfl ?_
  obtain ⟨o3, k⟩ := k
  have q4 := sh_w e2 (by decide) o3
  refine aw_getI dX6_readClause_13 fl_X6_29 rfl q4 (x := (h1 v0 5)) rfl ?_
  rcases (show (h1 v0 5) = 0 ∨ (h1 v0 5) = 1 ∨ (h1 v0 5) = 2 ∨ (h1 v0 5) = 3 ∨ (h1 v0 5) = 4 ∨ (h1 v0 5) = 5 ∨ ((h1 v0 5) < 0 ∨ 5 < (h1 v0 5)) by omega) with hc | hc | hc | hc | hc | hc | hc
  · have k := k.1 hc
    refine aw_tableIn (x := (h1 v0 5)) (tgt := 56) dX6_readClause_16 (by omega) (by omega) (by rw [hc]; rfl) (by decide) ?_
    refine aw_iconst dX6_readClause_56 ⟨by decide, by decide⟩ ?_
    exact aw_zret dX6_readClause_57 rfl (by decide) k
  · have k := k.2.1 hc
    refine aw_tableIn (x := (h1 v0 5)) (tgt := 58) dX6_readClause_16 (by omega) (by omega) (by rw [hc]; rfl) (by decide) ?_
    refine aw_aload_n 0 dX6_readClause_58 rfl rfl ?_
    refine aw_iconst dX6_readClause_59 ⟨by decide, by decide⟩ ?_
    refine aw_iconst dX6_readClause_60 ⟨by decide, by decide⟩ ?_
    refine aw_iconst dX6_readClause_61 ⟨by decide, by decide⟩ ?_
    refine aw_callV (M' := mm_X6_readNumber) 6 [vI 0, vI 0, vI 1] [] lk_X6_49 ⟨_, rfl, rfl⟩ dX6_readClause_62 rfl (Nat.le_of_ble_eq_true rfl) ⟨by decide, by decide, Nat.zero_le _, Nat.zero_le _⟩ q4 ?_
    exact k
  · have k := k.2.2.1 hc
    refine aw_tableIn (x := (h1 v0 5)) (tgt := 124) dX6_readClause_16 (by omega) (by omega) (by rw [hc]; rfl) (by decide) ?_
    refine aw_aload_n 0 dX6_readClause_124 rfl rfl ?_
    refine aw_iconst dX6_readClause_125 ⟨by decide, by decide⟩ ?_
    refine aw_iconst dX6_readClause_126 ⟨by decide, by decide⟩ ?_
    refine aw_iconst dX6_readClause_127 ⟨by decide, by decide⟩ ?_
    refine aw_callV (M' := mm_X6_readNumber) 6 [vI 0, vI 0, vI 1] [] lk_X6_49 ⟨_, rfl, rfl⟩ dX6_readClause_128 rfl (Nat.le_of_ble_eq_true rfl) ⟨by decide, by decide, Nat.zero_le _, Nat.zero_le _⟩ q4 ?_
    exact k
  · have k := k.2.2.2.1 hc
    refine aw_tableIn (x := (h1 v0 5)) (tgt := 163) dX6_readClause_16 (by omega) (by omega) (by rw [hc]; rfl) (by decide) ?_
    refine aw_aload_n 0 dX6_readClause_163 rfl rfl ?_
    refine aw_iconst dX6_readClause_164 ⟨by decide, by decide⟩ ?_
    refine aw_iconst dX6_readClause_165 ⟨by decide, by decide⟩ ?_
    refine aw_iconst dX6_readClause_166 ⟨by decide, by decide⟩ ?_
    refine aw_callV (M' := mm_X6_readNumber) 6 [vI 0, vI 0, vI 1] [] lk_X6_49 ⟨_, rfl, rfl⟩ dX6_readClause_167 rfl (Nat.le_of_ble_eq_true rfl) ⟨by decide, by decide, Nat.zero_le _, Nat.zero_le _⟩ q4 ?_
    exact k
  · have k := k.2.2.2.2.1 hc
    refine aw_tableIn (x := (h1 v0 5)) (tgt := 190) dX6_readClause_16 (by omega) (by omega) (by rw [hc]; rfl) (by decide) ?_
    refine aw_aload_n 0 dX6_readClause_190 rfl rfl ?_
    refine aw_iconst dX6_readClause_191 ⟨by decide, by decide⟩ ?_
    refine aw_iconst dX6_readClause_192 ⟨by decide, by decide⟩ ?_
    refine aw_iconst dX6_readClause_193 ⟨by decide, by decide⟩ ?_
    refine aw_callV (M' := mm_X6_readNumber) 6 [vI 0, vI 0, vI 3] [] lk_X6_49 ⟨_, rfl, rfl⟩ dX6_readClause_194 rfl (Nat.le_of_ble_eq_true rfl) ⟨by decide, by decide, Nat.zero_le _, Nat.zero_le _⟩ q4 ?_
    exact k
  · have k := k.2.2.2.2.2.1 hc
    refine aw_tableIn (x := (h1 v0 5)) (tgt := 227) dX6_readClause_16 (by omega) (by omega) (by rw [hc]; rfl) (by decide) ?_
    refine aw_aload_n 0 dX6_readClause_227 rfl rfl ?_
    refine aw_iconst dX6_readClause_228 ⟨by decide, by decide⟩ ?_
    refine aw_iconst dX6_readClause_229 ⟨by decide, by decide⟩ ?_
    refine aw_iconst dX6_readClause_230 ⟨by decide, by decide⟩ ?_
    refine aw_callV (M' := mm_X6_readNumber) 6 [vI 0, vI 0, vI 1] [] lk_X6_49 ⟨_, rfl, rfl⟩ dX6_readClause_231 rfl (Nat.le_of_ble_eq_true rfl) ⟨by decide, by decide, Nat.zero_le _, Nat.zero_le _⟩ q4 ?_
    exact k.mono (fun _ _ z => aw_sub [] rfl z)
  · have k := k.2.2.2.2.2.2 hc
    refine aw_tableOut (x := (h1 v0 5)) (tgt := 235) dX6_readClause_16 hc (by decide) ?_
    refine aw_iconst dX6_readClause_235 ⟨by decide, by decide⟩ ?_
    exact aw_zret dX6_readClause_236 rfl (by decide) k
set_option maxRecDepth 20000 in
theorem sg_X6_readClause_65 {G : GG} {b : Nat × Nat} {Q : Option VV → Hp → Prop} {v0 s0 : Int} {h : Hp} (k : ((s0 = 0) → Q (some (vI 0)) h) ∧ ((¬ (s0 = 0)) → (h v0 (-1) = 7) ∧ Runs G mm_X6_readNumber [vR v0, vI 1, vI 0, vI 3] h (fun r h' => AW G mm_X6_readClause b 75 [(0, vR v0)] (r.toList ++ []) h' Q))) : AW G mm_X6_readClause b 65 [(0, vR v0)] [vI s0] h Q := by
  refine aw_if_eq (tgt := 122) dX6_readClause_65 (by decide) (fun hc => ?_) (fun hc => ?_)
  · have k := k.1 hc
    refine aw_iconst dX6_readClause_122 ⟨by decide, by decide⟩ ?_
    exact aw_zret dX6_readClause_123 rfl (by decide) k
  · have k := k.2 hc
    refine aw_aload_n 0 dX6_readClause_68 rfl rfl ?_
    refine aw_iconst dX6_readClause_69 ⟨by decide, by decide⟩ ?_
    refine aw_iconst dX6_readClause_70 ⟨by decide, by decide⟩ ?_
    refine aw_iconst dX6_readClause_71 ⟨by decide, by decide⟩ ?_
    obtain ⟨o1, k⟩ := k
    refine aw_callV (M' := mm_X6_readNumber) 6 [vI 1, vI 0, vI 3] [] lk_X6_49 ⟨_, rfl, rfl⟩ dX6_readClause_72 rfl (Nat.le_of_ble_eq_true rfl) ⟨by decide, by decide, Nat.zero_le _, Nat.zero_le _⟩ o1 ?_
    exact k
set_option maxRecDepth 20000 in
theorem sg_X6_readClause_131 {G : GG} {b : Nat × Nat} {Q : Option VV → Hp → Prop} {v0 s0 : Int} {h : Hp} (k : ((s0 = 0) → Q (some (vI 0)) h) ∧ ((¬ (s0 = 0)) → (h v0 (-1) = 7) ∧ Runs G mm_X6_readNumber [vR v0, vI 1, vI 0, vI 11] h (fun r h' => AW G mm_X6_readClause b 142 [(0, vR v0)] (r.toList ++ []) h' Q))) : AW G mm_X6_readClause b 131 [(0, vR v0)] [vI s0] h Q := by
  refine aw_if_eq (tgt := 161) dX6_readClause_131 (by decide) (fun hc => ?_) (fun hc => ?_)
  · have k := k.1 hc
    refine aw_iconst dX6_readClause_161 ⟨by decide, by decide⟩ ?_
    exact aw_zret dX6_readClause_162 rfl (by decide) k
  · have k := k.2 hc
    refine aw_aload_n 0 dX6_readClause_134 rfl rfl ?_
    refine aw_iconst dX6_readClause_135 ⟨by decide, by decide⟩ ?_
    refine aw_iconst dX6_readClause_136 ⟨by decide, by decide⟩ ?_
    refine aw_bipush dX6_readClause_137 ⟨by decide, by decide⟩ (by decide) ?_
    obtain ⟨o1, k⟩ := k
    refine aw_callV (M' := mm_X6_readNumber) 6 [vI 1, vI 0, vI 11] [] lk_X6_49 ⟨_, rfl, rfl⟩ dX6_readClause_139 rfl (Nat.le_of_ble_eq_true rfl) ⟨by decide, by decide, Nat.zero_le _, Nat.zero_le _⟩ o1 ?_
    exact k
set_option maxRecDepth 20000 in
theorem sg_X6_readClause_170 {G : GG} {b : Nat × Nat} {Q : Option VV → Hp → Prop} {v0 s0 : Int} {h : Hp} (k : ((s0 = 0) → Q (some (vI 0)) h) ∧ ((¬ (s0 = 0)) → (h v0 (-1) = 7) ∧ Runs G mm_X6_readNumber [vR v0, vI 1, vI 1, vI 9] h (fun r h' => AW G mm_X6_readClause b 181 [] (r.toList ++ []) h' Q))) : AW G mm_X6_readClause b 170 [(0, vR v0)] [vI s0] h Q := by
  refine aw_if_eq (tgt := 188) dX6_readClause_170 (by decide) (fun hc => ?_) (fun hc => ?_)
  · have k := k.1 hc
    refine aw_iconst dX6_readClause_188 ⟨by decide, by decide⟩ ?_
    exact aw_zret dX6_readClause_189 rfl (by decide) k
  · have k := k.2 hc
    refine aw_aload_n 0 dX6_readClause_173 rfl rfl ?_
    refine aw_iconst dX6_readClause_174 ⟨by decide, by decide⟩ ?_
    refine aw_iconst dX6_readClause_175 ⟨by decide, by decide⟩ ?_
    refine aw_bipush dX6_readClause_176 ⟨by decide, by decide⟩ (by decide) ?_
    obtain ⟨o1, k⟩ := k
    refine aw_callV (M' := mm_X6_readNumber) 6 [vI 1, vI 1, vI 9] [] lk_X6_49 ⟨_, rfl, rfl⟩ dX6_readClause_178 rfl (Nat.le_of_ble_eq_true rfl) ⟨by decide, by decide, Nat.zero_le _, Nat.zero_le _⟩ o1 ?_
    exact k.mono (fun _ _ z => aw_sub [] rfl z)
set_option maxRecDepth 20000 in
theorem sg_X6_readClause_197 {G : GG} {b : Nat × Nat} {Q : Option VV → Hp → Prop} {v0 s0 : Int} {h : Hp} (k : ((s0 = 0) → Q (some (vI 0)) h) ∧ ((¬ (s0 = 0)) → (h v0 (-1) = 7) ∧ Runs G mm_X6_readNumber [vR v0, vI 1, vI 0, vI 3] h (fun r h' => AW G mm_X6_readClause b 207 [(0, vR v0)] (r.toList ++ []) h' Q))) : AW G mm_X6_readClause b 197 [(0, vR v0)] [vI s0] h Q := by
  refine aw_if_eq (tgt := 225) dX6_readClause_197 (by decide) (fun hc => ?_) (fun hc => ?_)
  · have k := k.1 hc
    refine aw_iconst dX6_readClause_225 ⟨by decide, by decide⟩ ?_
    exact aw_zret dX6_readClause_226 rfl (by decide) k
  · have k := k.2 hc
    refine aw_aload_n 0 dX6_readClause_200 rfl rfl ?_
    refine aw_iconst dX6_readClause_201 ⟨by decide, by decide⟩ ?_
    refine aw_iconst dX6_readClause_202 ⟨by decide, by decide⟩ ?_
    refine aw_iconst dX6_readClause_203 ⟨by decide, by decide⟩ ?_
    obtain ⟨o1, k⟩ := k
    refine aw_callV (M' := mm_X6_readNumber) 6 [vI 1, vI 0, vI 3] [] lk_X6_49 ⟨_, rfl, rfl⟩ dX6_readClause_204 rfl (Nat.le_of_ble_eq_true rfl) ⟨by decide, by decide, Nat.zero_le _, Nat.zero_le _⟩ o1 ?_
    exact k
set_option maxRecDepth 20000 in
theorem sg_X6_readClause_234 {G : GG} {b : Nat × Nat} {Q : Option VV → Hp → Prop} {s0 : Int} {h : Hp} (k : (s0 = 0 ∨ s0 = 1) ∧ Q (some (vI s0)) h) : AW G mm_X6_readClause b 234 [] [vI s0] h Q := by
  obtain ⟨o1, k⟩ := k
  exact aw_zret dX6_readClause_234 rfl o1 k
set_option maxRecDepth 20000 in
theorem sg_X6_readClause_75 {G : GG} {b : Nat × Nat} {Q : Option VV → Hp → Prop} {v0 s0 : Int} {h : Hp} (k : ((s0 = 0) → Q (some (vI 0)) h) ∧ ((¬ (s0 = 0)) → (h v0 (-1) = 7) ∧ Runs G mm_X6_readNumber [vR v0, vI 2, vI 0, vI 11] h (fun r h' => AW G mm_X6_readClause b 86 [(0, vR v0)] (r.toList ++ []) h' Q))) : AW G mm_X6_readClause b 75 [(0, vR v0)] [vI s0] h Q := by
  refine aw_if_eq (tgt := 122) dX6_readClause_75 (by decide) (fun hc => ?_) (fun hc => ?_)
  · have k := k.1 hc
    refine aw_iconst dX6_readClause_122 ⟨by decide, by decide⟩ ?_
    exact aw_zret dX6_readClause_123 rfl (by decide) k
  · have k := k.2 hc
    refine aw_aload_n 0 dX6_readClause_78 rfl rfl ?_
    refine aw_iconst dX6_readClause_79 ⟨by decide, by decide⟩ ?_
    refine aw_iconst dX6_readClause_80 ⟨by decide, by decide⟩ ?_
    refine aw_bipush dX6_readClause_81 ⟨by decide, by decide⟩ (by decide) ?_
    obtain ⟨o1, k⟩ := k
    refine aw_callV (M' := mm_X6_readNumber) 6 [vI 2, vI 0, vI 11] [] lk_X6_49 ⟨_, rfl, rfl⟩ dX6_readClause_83 rfl (Nat.le_of_ble_eq_true rfl) ⟨by decide, by decide, Nat.zero_le _, Nat.zero_le _⟩ o1 ?_
    exact k
set_option maxRecDepth 20000 in
theorem sg_X6_readClause_142 {G : GG} {b : Nat × Nat} {Q : Option VV → Hp → Prop} {v0 s0 : Int} {h : Hp} (k : ((s0 = 0) → Q (some (vI 0)) h) ∧ ((¬ (s0 = 0)) → (h v0 (-1) = 7) ∧ Runs G mm_X6_readNumber [vR v0, vI 2, vI 0, vI 9999] h (fun r h' => AW G mm_X6_readClause b 154 [] (r.toList ++ []) h' Q))) : AW G mm_X6_readClause b 142 [(0, vR v0)] [vI s0] h Q := by
  refine aw_if_eq (tgt := 161) dX6_readClause_142 (by decide) (fun hc => ?_) (fun hc => ?_)
  · have k := k.1 hc
    refine aw_iconst dX6_readClause_161 ⟨by decide, by decide⟩ ?_
    exact aw_zret dX6_readClause_162 rfl (by decide) k
  · have k := k.2 hc
    refine aw_aload_n 0 dX6_readClause_145 rfl rfl ?_
    refine aw_iconst dX6_readClause_146 ⟨by decide, by decide⟩ ?_
    refine aw_iconst dX6_readClause_147 ⟨by decide, by decide⟩ ?_
    refine aw_sipush dX6_readClause_148 ⟨by decide, by decide⟩ (by decide) ?_
    obtain ⟨o1, k⟩ := k
    refine aw_callV (M' := mm_X6_readNumber) 6 [vI 2, vI 0, vI 9999] [] lk_X6_49 ⟨_, rfl, rfl⟩ dX6_readClause_151 rfl (Nat.le_of_ble_eq_true rfl) ⟨by decide, by decide, Nat.zero_le _, Nat.zero_le _⟩ o1 ?_
    exact k.mono (fun _ _ z => aw_sub [] rfl z)
set_option maxRecDepth 20000 in
theorem sg_X6_readClause_181 {G : GG} {b : Nat × Nat} {Q : Option VV → Hp → Prop} {s0 : Int} {h : Hp} (k : ((s0 = 0) → Q (some (vI 0)) h) ∧ ((¬ (s0 = 0)) → Q (some (vI 1)) h)) : AW G mm_X6_readClause b 181 [] [vI s0] h Q := by
  refine aw_if_eq (tgt := 188) dX6_readClause_181 (by decide) (fun hc => ?_) (fun hc => ?_)
  · have k := k.1 hc
    refine aw_iconst dX6_readClause_188 ⟨by decide, by decide⟩ ?_
    exact aw_zret dX6_readClause_189 rfl (by decide) k
  · have k := k.2 hc
    refine aw_iconst dX6_readClause_184 ⟨by decide, by decide⟩ ?_
    refine aw_goto (tgt := 189) dX6_readClause_185 (by decide) ?_
    exact aw_zret dX6_readClause_189 rfl (by decide) k
set_option maxRecDepth 20000 in
theorem sg_X6_readClause_207 {G : GG} {b : Nat × Nat} {Q : Option VV → Hp → Prop} {v0 s0 : Int} {h : Hp} (k : ((s0 = 0) → Q (some (vI 0)) h) ∧ ((¬ (s0 = 0)) → (h v0 (-1) = 7) ∧ Runs G mm_X6_readNumber [vR v0, vI 2, vI 0, vI 11] h (fun r h' => AW G mm_X6_readClause b 218 [] (r.toList ++ []) h' Q))) : AW G mm_X6_readClause b 207 [(0, vR v0)] [vI s0] h Q := by
  refine aw_if_eq (tgt := 225) dX6_readClause_207 (by decide) (fun hc => ?_) (fun hc => ?_)
  · have k := k.1 hc
    refine aw_iconst dX6_readClause_225 ⟨by decide, by decide⟩ ?_
    exact aw_zret dX6_readClause_226 rfl (by decide) k
  · have k := k.2 hc
    refine aw_aload_n 0 dX6_readClause_210 rfl rfl ?_
    refine aw_iconst dX6_readClause_211 ⟨by decide, by decide⟩ ?_
    refine aw_iconst dX6_readClause_212 ⟨by decide, by decide⟩ ?_
    refine aw_bipush dX6_readClause_213 ⟨by decide, by decide⟩ (by decide) ?_
    obtain ⟨o1, k⟩ := k
    refine aw_callV (M' := mm_X6_readNumber) 6 [vI 2, vI 0, vI 11] [] lk_X6_49 ⟨_, rfl, rfl⟩ dX6_readClause_215 rfl (Nat.le_of_ble_eq_true rfl) ⟨by decide, by decide, Nat.zero_le _, Nat.zero_le _⟩ o1 ?_
    exact k.mono (fun _ _ z => aw_sub [] rfl z)
set_option maxRecDepth 20000 in
theorem sg_X6_readClause_86 {G : GG} {b : Nat × Nat} {Q : Option VV → Hp → Prop} {v0 s0 : Int} {h : Hp} (k : ((s0 = 0) → Q (some (vI 0)) h) ∧ ((¬ (s0 = 0)) → (h v0 (-1) = 7) ∧ (h (h v0 1) (-1) = 20) ∧ (2 < h (h v0 1) (-2)) ∧ (inI (12 - (h (h v0 1) 2))) ∧ Runs G mm_X6_readNumber [vR v0, vI 3, vI 1, vI (12 - (h (h v0 1) 2))] h (fun r h' => AW G mm_X6_readClause b 104 [(0, vR v0)] (r.toList ++ []) h' Q))) : AW G mm_X6_readClause b 86 [(0, vR v0)] [vI s0] h Q := by
  refine aw_if_eq (tgt := 122) dX6_readClause_86 (by decide) (fun hc => ?_) (fun hc => ?_)
  · have k := k.1 hc
    refine aw_iconst dX6_readClause_122 ⟨by decide, by decide⟩ ?_
    exact aw_zret dX6_readClause_123 rfl (by decide) k
  · have k := k.2 hc
    refine aw_aload_n 0 dX6_readClause_89 rfl rfl ?_
    refine aw_iconst dX6_readClause_90 ⟨by decide, by decide⟩ ?_
    refine aw_iconst dX6_readClause_91 ⟨by decide, by decide⟩ ?_
    refine aw_bipush dX6_readClause_92 ⟨by decide, by decide⟩ (by decide) ?_
    refine aw_aload_n 0 dX6_readClause_94 rfl rfl ?_
    obtain ⟨o1, k⟩ := k
    refine aw_getR dX6_readClause_95 fl_X6_15 rfl o1 (x := (h v0 1)) rfl ?_
    refine aw_iconst dX6_readClause_98 ⟨by decide, by decide⟩ ?_
    obtain ⟨o2, k⟩ := k
    obtain ⟨o3, k⟩ := k
    refine aw_iald dX6_readClause_99 o2 (by decide) o3 (x := (h (h v0 1) 2)) rfl ?_
    obtain ⟨o4, k⟩ := k
    refine aw_isub dX6_readClause_100 o4 ?_
    refine aw_callV (M' := mm_X6_readNumber) 6 [vI 3, vI 1, vI (12 - (h (h v0 1) 2))] [] lk_X6_49 ⟨_, rfl, rfl⟩ dX6_readClause_101 rfl (Nat.le_of_ble_eq_true rfl) ⟨by decide, by decide, Nat.zero_le _, Nat.zero_le _⟩ o1 ?_
    exact k
set_option maxRecDepth 20000 in
theorem sg_X6_readClause_154 {G : GG} {b : Nat × Nat} {Q : Option VV → Hp → Prop} {s0 : Int} {h : Hp} (k : ((s0 = 0) → Q (some (vI 0)) h) ∧ ((¬ (s0 = 0)) → Q (some (vI 1)) h)) : AW G mm_X6_readClause b 154 [] [vI s0] h Q := by
  refine aw_if_eq (tgt := 161) dX6_readClause_154 (by decide) (fun hc => ?_) (fun hc => ?_)
  · have k := k.1 hc
    refine aw_iconst dX6_readClause_161 ⟨by decide, by decide⟩ ?_
    exact aw_zret dX6_readClause_162 rfl (by decide) k
  · have k := k.2 hc
    refine aw_iconst dX6_readClause_157 ⟨by decide, by decide⟩ ?_
    refine aw_goto (tgt := 162) dX6_readClause_158 (by decide) ?_
    exact aw_zret dX6_readClause_162 rfl (by decide) k
set_option maxRecDepth 20000 in
theorem sg_X6_readClause_218 {G : GG} {b : Nat × Nat} {Q : Option VV → Hp → Prop} {s0 : Int} {h : Hp} (k : ((s0 = 0) → Q (some (vI 0)) h) ∧ ((¬ (s0 = 0)) → Q (some (vI 1)) h)) : AW G mm_X6_readClause b 218 [] [vI s0] h Q := by
  refine aw_if_eq (tgt := 225) dX6_readClause_218 (by decide) (fun hc => ?_) (fun hc => ?_)
  · have k := k.1 hc
    refine aw_iconst dX6_readClause_225 ⟨by decide, by decide⟩ ?_
    exact aw_zret dX6_readClause_226 rfl (by decide) k
  · have k := k.2 hc
    refine aw_iconst dX6_readClause_221 ⟨by decide, by decide⟩ ?_
    refine aw_goto (tgt := 226) dX6_readClause_222 (by decide) ?_
    exact aw_zret dX6_readClause_226 rfl (by decide) k
set_option maxRecDepth 20000 in
theorem sg_X6_readClause_104 {G : GG} {b : Nat × Nat} {Q : Option VV → Hp → Prop} {v0 s0 : Int} {h : Hp} (k : ((s0 = 0) → Q (some (vI 0)) h) ∧ ((¬ (s0 = 0)) → (h v0 (-1) = 7) ∧ Runs G mm_X6_readNumber [vR v0, vI 4, vI 0, vI 7] h (fun r h' => AW G mm_X6_readClause b 115 [] (r.toList ++ []) h' Q))) : AW G mm_X6_readClause b 104 [(0, vR v0)] [vI s0] h Q := by
  refine aw_if_eq (tgt := 122) dX6_readClause_104 (by decide) (fun hc => ?_) (fun hc => ?_)
  · have k := k.1 hc
    refine aw_iconst dX6_readClause_122 ⟨by decide, by decide⟩ ?_
    exact aw_zret dX6_readClause_123 rfl (by decide) k
  · have k := k.2 hc
    refine aw_aload_n 0 dX6_readClause_107 rfl rfl ?_
    refine aw_iconst dX6_readClause_108 ⟨by decide, by decide⟩ ?_
    refine aw_iconst dX6_readClause_109 ⟨by decide, by decide⟩ ?_
    refine aw_bipush dX6_readClause_110 ⟨by decide, by decide⟩ (by decide) ?_
    obtain ⟨o1, k⟩ := k
    refine aw_callV (M' := mm_X6_readNumber) 6 [vI 4, vI 0, vI 7] [] lk_X6_49 ⟨_, rfl, rfl⟩ dX6_readClause_112 rfl (Nat.le_of_ble_eq_true rfl) ⟨by decide, by decide, Nat.zero_le _, Nat.zero_le _⟩ o1 ?_
    exact k.mono (fun _ _ z => aw_sub [] rfl z)
set_option maxRecDepth 20000 in
theorem sg_X6_readClause_115 {G : GG} {b : Nat × Nat} {Q : Option VV → Hp → Prop} {s0 : Int} {h : Hp} (k : ((s0 = 0) → Q (some (vI 0)) h) ∧ ((¬ (s0 = 0)) → Q (some (vI 1)) h)) : AW G mm_X6_readClause b 115 [] [vI s0] h Q := by
  refine aw_if_eq (tgt := 122) dX6_readClause_115 (by decide) (fun hc => ?_) (fun hc => ?_)
  · have k := k.1 hc
    refine aw_iconst dX6_readClause_122 ⟨by decide, by decide⟩ ?_
    exact aw_zret dX6_readClause_123 rfl (by decide) k
  · have k := k.2 hc
    refine aw_iconst dX6_readClause_118 ⟨by decide, by decide⟩ ?_
    refine aw_goto (tgt := 123) dX6_readClause_119 (by decide) ?_
    exact aw_zret dX6_readClause_123 rfl (by decide) k
set_option maxRecDepth 20000 in
theorem sg_X6_readNumber_0 {G : GG} {b : Nat × Nat} {Q : Option VV → Hp → Prop} {v0 v1 v2 v3 : Int} {h : Hp} (k : (h v0 (-1) = 7) ∧ Runs G mm_X6_nextToken [vR v0] h (fun r h' => AW G mm_X6_readNumber b 4 [(0, vR v0), (1, vI v1), (2, vI v2), (3, vI v3)] (r.toList ++ []) h' Q)) : AW G mm_X6_readNumber b 0 [(0, vR v0), (1, vI v1), (2, vI v2), (3, vI v3)] [] h Q := by
  refine aw_aload_n 0 dX6_readNumber_0 rfl rfl ?_
  obtain ⟨o1, k⟩ := k
  refine aw_callV (M' := mm_X6_nextToken) 6 [] [] lk_X6_42 ⟨_, rfl, rfl⟩ dX6_readNumber_1 rfl (Nat.le_of_ble_eq_true rfl) ⟨by decide, by decide, Nat.zero_le _, Nat.zero_le _⟩ o1 ?_
  exact k
theorem rn_X6_readNumber {G : GG} {Q : Option VV → Hp → Prop} {v0 v1 v2 v3 : Int} {h : Hp} (k : (h v0 (-1) = 7) ∧ Runs G mm_X6_nextToken [vR v0] h (fun r h' => AW G mm_X6_readNumber (0, 0) 4 [(0, vR v0), (1, vI v1), (2, vI v2), (3, vI v3)] (r.toList ++ []) h' Q)) : Runs G mm_X6_readNumber [vR v0, vI v1, vI v2, vI v3] h Q := Runs.of (by decide +kernel) (Nat.le_of_ble_eq_true rfl) (sg_X6_readNumber_0 (b := (0, 0)) k)
set_option maxRecDepth 20000 in
theorem sg_X6_readNumber_4 {G : GG} {b : Nat × Nat} {Q : Option VV → Hp → Prop} {v0 v1 v2 v3 : Int} {h : Hp} (k : (h v0 (-1) = 7) ∧ (inI ((h v0 4) - (h v0 3))) ∧ ((((h v0 4) - (h v0 3)) < 1) → Q (some (vI 0)) h) ∧ ((¬ (((h v0 4) - (h v0 3)) < 1)) → ((4 < ((h v0 4) - (h v0 3))) → Q (some (vI 0)) h) ∧ ((¬ (4 < ((h v0 4) - (h v0 3)))) → (h (h v0 0) (-1) = 22) ∧ (0 ≤ (h v0 3)) ∧ ((h v0 3) < h (h v0 0) (-2)) ∧ ((48 ≤ (h (h v0 0) (h v0 3)) ∧ (h (h v0 0) (h v0 3)) ≤ 57) → AW G mm_X6_readNumber b 53 [(0, vR v0), (1, vI v1), (2, vI v2), (3, vI v3), (5, vI 0), (6, vI (h v0 3))] [] h Q) ∧ ((¬ (48 ≤ (h (h v0 0) (h v0 3)) ∧ (h (h v0 0) (h v0 3)) ≤ 57)) → Q (some (vI 0)) h)))) : AW G mm_X6_readNumber b 4 [(0, vR v0), (1, vI v1), (2, vI v2), (3, vI v3)] [] h Q := by
  refine aw_aload_n 0 dX6_readNumber_4 rfl rfl ?_
  obtain ⟨o1, k⟩ := k
  refine aw_getI dX6_readNumber_5 fl_X6_26 rfl o1 (x := (h v0 4)) rfl ?_
  refine aw_aload_n 0 dX6_readNumber_8 rfl rfl ?_
  refine aw_getI dX6_readNumber_9 fl_X6_23 rfl o1 (x := (h v0 3)) rfl ?_
  obtain ⟨o2, k⟩ := k
  refine aw_isub dX6_readNumber_12 o2 ?_
  refine aw_istore dX6_readNumber_13 (by decide) ?_
  refine aw_iload 0 dX6_readNumber_15 rfl ?_
  refine aw_iconst dX6_readNumber_17 ⟨by decide, by decide⟩ ?_
  refine aw_icmp_lt (tgt := 42) dX6_readNumber_18 (by decide) (fun hc => ?_) (fun hc => ?_)
  · have k := k.1 hc
    refine aw_iconst dX6_readNumber_42 ⟨by decide, by decide⟩ ?_
    exact aw_zret dX6_readNumber_43 rfl (by decide) k
  · have k := k.2 hc
    refine aw_iload 0 dX6_readNumber_21 rfl ?_
    refine aw_iconst dX6_readNumber_23 ⟨by decide, by decide⟩ ?_
    refine aw_icmp_gt (tgt := 42) dX6_readNumber_24 (by decide) (fun hc => ?_) (fun hc => ?_)
    · have k := k.1 hc
      refine aw_iconst dX6_readNumber_42 ⟨by decide, by decide⟩ ?_
      exact aw_zret dX6_readNumber_43 rfl (by decide) k
    · have k := k.2 hc
      refine aw_aload_n 1 dX6_readNumber_27 rfl rfl ?_
      refine aw_getR dX6_readNumber_28 fl_X6_9 rfl o1 (x := (h v0 0)) rfl ?_
      refine aw_aload_n 1 dX6_readNumber_31 rfl rfl ?_
      refine aw_getI dX6_readNumber_32 fl_X6_23 rfl o1 (x := (h v0 3)) rfl ?_
      obtain ⟨o3, k⟩ := k
      obtain ⟨o4, k⟩ := k
      obtain ⟨o5, k⟩ := k
      refine aw_cald dX6_readNumber_35 o3 o4 o5 (x := (h (h v0 0) (h v0 3))) rfl ?_
      refine aw_callS (M' := mm_X6_isDigit) [vI (h (h v0 0) (h v0 3))] [] lk_X6_57 dX6_readNumber_36 rfl (Nat.le_of_ble_eq_true rfl) ⟨by decide, by decide, Nat.zero_le _, Nat.zero_le _⟩ ?_
      refine pu_X6_isDigit ?_
      refine aw_if_ne (tgt := 44) dX6_readNumber_39 (by decide) (fun hc => ?_) (fun hc => ?_)
      · have k := k.1 (b2i_n.mp hc)
        refine aw_iconst dX6_readNumber_44 ⟨by decide, by decide⟩ ?_
        refine aw_istore dX6_readNumber_45 (by decide) ?_
        refine aw_aload_n 2 dX6_readNumber_47 rfl rfl ?_
        refine aw_getI dX6_readNumber_48 fl_X6_23 rfl o1 (x := (h v0 3)) rfl ?_
        refine aw_istore dX6_readNumber_51 (by decide) ?_
        exact aw_sub [3, 4, 5, 6, 1, 0] rfl k
      · have k := k.2 (b2i_0.mp hc)
        refine aw_iconst dX6_readNumber_42 ⟨by decide, by decide⟩ ?_
        exact aw_zret dX6_readNumber_43 rfl (by decide) k
set_option maxRecDepth 20000 in
theorem sg_X6_readNumber_53 {G : GG} {b : Nat × Nat} {Q : Option VV → Hp → Prop} {v0 v1 v2 v3 v5 v6 : Int} {h : Hp} (k : (h v0 (-1) = 7) ∧ (((h v0 4) ≤ v6) → (h (h v0 1) (-1) = 20) ∧ (0 ≤ v1) ∧ (v1 < h (h v0 1) (-2)) ∧ ∀ h1, h1 = wr h (h v0 1) v1 v5 → ((v5 < v2 ∨ v3 < v5) → Q (some (vI 0)) h1) ∧ ((¬ (v5 < v2 ∨ v3 < v5)) → Q (some (vI 1)) h1)) ∧ ((¬ ((h v0 4) ≤ v6)) → (inI (v5 * 10)) ∧ (h (h v0 0) (-1) = 22) ∧ (0 ≤ v6) ∧ (v6 < h (h v0 0) (-2)) ∧ (inI ((h (h v0 0) v6) - 48)) ∧ (inI ((v5 * 10) + ((h (h v0 0) v6) - 48))) ∧ (inI (v6 + 1)) ∧ AW G mm_X6_readNumber b 53 [(0, vR v0), (1, vI v1), (2, vI v2), (3, vI v3), (5, vI ((v5 * 10) + ((h (h v0 0) v6) - 48))), (6, vI (v6 + 1))] [] h Q)) : AW G mm_X6_readNumber b 53 [(0, vR v0), (1, vI v1), (2, vI v2), (3, vI v3), (5, vI v5), (6, vI v6)] [] h Q := by
  refine aw_iload 5 dX6_readNumber_53 rfl ?_
  refine aw_aload_n 0 dX6_readNumber_55 rfl rfl ?_
  obtain ⟨o1, k⟩ := k
  refine aw_getI dX6_readNumber_56 fl_X6_26 rfl o1 (x := (h v0 4)) rfl ?_
  refine aw_icmp_ge (tgt := 86) dX6_readNumber_59 (by decide) (fun hc => ?_) (fun hc => ?_)
  · have k := k.1 hc
    refine aw_aload_n 0 dX6_readNumber_86 rfl rfl ?_
    refine aw_getR dX6_readNumber_87 fl_X6_15 rfl o1 (x := (h v0 1)) rfl ?_
    refine aw_iload_n 1 dX6_readNumber_90 rfl rfl ?_
    refine aw_iload 4 dX6_readNumber_91 rfl ?_
    obtain ⟨o2, k⟩ := k
    obtain ⟨o3, k⟩ := k
    obtain ⟨o4, k⟩ := k
    refine aw_iast dX6_readNumber_93 o2 o3 o4 ?_
    refine aw_hp (fun h1 e5 => ?_)
    have k := k h1 e5
    refine aw_iload 4 dX6_readNumber_94 rfl ?_
    refine aw_iload_n 2 dX6_readNumber_96 rfl rfl ?_
    refine aw_iload_n 3 dX6_readNumber_97 rfl rfl ?_
    refine aw_callSN (M' := mm_X9_isOutside) [vI v5, vI v2, vI v3] [] lk_X6_88 dX6_readNumber_98 rfl (Nat.le_of_ble_eq_true rfl) ⟨by decide, by decide, Nat.zero_le _, Nat.zero_le _⟩ ?_
    refine pu_X9_isOutside ?_
    refine aw_if_ne (tgt := 108) dX6_readNumber_101 (by decide) (fun hc => ?_) (fun hc => ?_)
    · have k := k.1 (b2i_n.mp hc)
      refine aw_iconst dX6_readNumber_108 ⟨by decide, by decide⟩ ?_
      exact aw_zret dX6_readNumber_109 rfl (by decide) k
    · have k := k.2 (b2i_0.mp hc)
      refine aw_iconst dX6_readNumber_104 ⟨by decide, by decide⟩ ?_
      refine aw_goto (tgt := 109) dX6_readNumber_105 (by decide) ?_
      exact aw_zret dX6_readNumber_109 rfl (by decide) k
  · have k := k.2 hc
    refine aw_iload 4 dX6_readNumber_62 rfl ?_
    refine aw_bipush dX6_readNumber_64 ⟨by decide, by decide⟩ (by decide) ?_
    obtain ⟨o6, k⟩ := k
    refine aw_imul dX6_readNumber_66 o6 ?_
    refine aw_aload_n 0 dX6_readNumber_67 rfl rfl ?_
    refine aw_getR dX6_readNumber_68 fl_X6_9 rfl o1 (x := (h v0 0)) rfl ?_
    refine aw_iload 5 dX6_readNumber_71 rfl ?_
    obtain ⟨o7, k⟩ := k
    obtain ⟨o8, k⟩ := k
    obtain ⟨o9, k⟩ := k
    refine aw_cald dX6_readNumber_73 o7 o8 o9 (x := (h (h v0 0) v6)) rfl ?_
    refine aw_bipush dX6_readNumber_74 ⟨by decide, by decide⟩ (by decide) ?_
    obtain ⟨o10, k⟩ := k
    refine aw_isub dX6_readNumber_76 o10 ?_
    obtain ⟨o11, k⟩ := k
    refine aw_iadd dX6_readNumber_77 o11 ?_
    refine aw_istore dX6_readNumber_78 (by decide) ?_
    obtain ⟨o12, k⟩ := k
    refine aw_iinc 5 dX6_readNumber_80 rfl o12 (by decide) ?_
    refine aw_goto (tgt := 53) dX6_readNumber_83 (by decide) ?_
    exact aw_sub [2, 3, 4, 5, 1, 0] rfl k
set_option maxRecDepth 20000 in
theorem sg_X6_rewind_0 {G : GG} {b : Nat × Nat} {Q : Option VV → Hp → Prop} {v0 : Int} {h : Hp} (k : (h v0 (-1) = 7) ∧ ∀ h1, h1 = wr h v0 3 0 → ∀ h2, h2 = wr h1 v0 4 0 → Q none h2) : AW G mm_X6_rewind b 0 [(0, vR v0)] [] h Q := by
  refine aw_aload_n 0 dX6_rewind_0 rfl rfl ?_
  refine aw_iconst dX6_rewind_1 ⟨by decide, by decide⟩ ?_
  obtain ⟨o1, k⟩ := k
  refine aw_putI dX6_rewind_2 fl_X6_23 (fun q hq hf => by cases hq; cases hf) rfl rfl o1 ?_
  refine aw_hp (fun h1 e2 => ?_)
  have k := k h1 e2
  refine aw_aload_n 0 dX6_rewind_5 rfl rfl ?_
  refine aw_iconst dX6_rewind_6 ⟨by decide, by decide⟩ ?_
  have q3 := sh_w e2 (by decide) o1
  refine aw_putI dX6_rewind_7 fl_X6_26 (fun q hq hf => by cases hq; cases hf) rfl rfl q3 ?_
  refine aw_hp (fun h2 e4 => ?_)
  have k := k h2 e4
  exact aw_vret dX6_rewind_10 rfl k
theorem rn_X6_rewind {G : GG} {Q : Option VV → Hp → Prop} {v0 : Int} {h : Hp} (k : (h v0 (-1) = 7) ∧ ∀ h1, h1 = wr h v0 3 0 → ∀ h2, h2 = wr h1 v0 4 0 → Q none h2) : Runs G mm_X6_rewind [vR v0] h Q := Runs.of (by decide +kernel) (Nat.le_of_ble_eq_true rfl) (sg_X6_rewind_0 (b := (0, 0)) k)
set_option maxRecDepth 20000 in
theorem sg_X6_wordOfToken_0 {G : GG} {b : Nat × Nat} {Q : Option VV → Hp → Prop} {v0 : Int} {h : Hp} (k : (h v0 (-1) = 7) ∧ Runs G mm_X6_isToken [vR v0, vR (-2)] h (fun r h' => AW G mm_X6_wordOfToken b 6 [(0, vR v0)] (r.toList ++ []) h' Q)) : AW G mm_X6_wordOfToken b 0 [(0, vR v0)] [] h Q := by
  refine aw_aload_n 0 dX6_wordOfToken_0 rfl rfl ?_
  refine aw_ldcA (a := -2) 0 rfl rfl dX6_wordOfToken_1 ⟨by decide, by decide⟩ (by decide) ?_
  obtain ⟨o1, k⟩ := k
  refine aw_callV (M' := mm_X6_isToken) 6 [vR (-2)] [] lk_X6_66 ⟨_, rfl, rfl⟩ dX6_wordOfToken_3 rfl (Nat.le_of_ble_eq_true rfl) ⟨by decide, by decide, Nat.zero_le _, Nat.zero_le _⟩ o1 ?_
  exact k
theorem rn_X6_wordOfToken {G : GG} {Q : Option VV → Hp → Prop} {v0 : Int} {h : Hp} (k : (h v0 (-1) = 7) ∧ Runs G mm_X6_isToken [vR v0, vR (-2)] h (fun r h' => AW G mm_X6_wordOfToken (0, 0) 6 [(0, vR v0)] (r.toList ++ []) h' Q)) : Runs G mm_X6_wordOfToken [vR v0] h Q := Runs.of (by decide +kernel) (Nat.le_of_ble_eq_true rfl) (sg_X6_wordOfToken_0 (b := (0, 0)) k)
set_option maxRecDepth 20000 in
theorem sg_X6_wordOfToken_6 {G : GG} {b : Nat × Nat} {Q : Option VV → Hp → Prop} {v0 s0 : Int} {h : Hp} (k : ((s0 = 0) → (h v0 (-1) = 7) ∧ Runs G mm_X6_isToken [vR v0, vR (-3)] h (fun r h' => AW G mm_X6_wordOfToken b 17 [(0, vR v0)] (r.toList ++ []) h' Q)) ∧ ((¬ (s0 = 0)) → Q (some (vI 0)) h)) : AW G mm_X6_wordOfToken b 6 [(0, vR v0)] [vI s0] h Q := by
  refine aw_if_eq (tgt := 11) dX6_wordOfToken_6 (by decide) (fun hc => ?_) (fun hc => ?_)
  · have k := k.1 hc
    refine aw_aload_n 0 dX6_wordOfToken_11 rfl rfl ?_
    refine aw_ldcA (a := -3) 1 rfl rfl dX6_wordOfToken_12 ⟨by decide, by decide⟩ (by decide) ?_
    obtain ⟨o1, k⟩ := k
    refine aw_callV (M' := mm_X6_isToken) 6 [vR (-3)] [] lk_X6_66 ⟨_, rfl, rfl⟩ dX6_wordOfToken_14 rfl (Nat.le_of_ble_eq_true rfl) ⟨by decide, by decide, Nat.zero_le _, Nat.zero_le _⟩ o1 ?_
    exact k
  · have k := k.2 hc
    refine aw_iconst dX6_wordOfToken_9 ⟨by decide, by decide⟩ ?_
    exact aw_iret dX6_wordOfToken_10 rfl k
set_option maxRecDepth 20000 in
theorem sg_X6_wordOfToken_17 {G : GG} {b : Nat × Nat} {Q : Option VV → Hp → Prop} {v0 s0 : Int} {h : Hp} (k : ((s0 = 0) → (h v0 (-1) = 7) ∧ Runs G mm_X6_isToken [vR v0, vR (-4)] h (fun r h' => AW G mm_X6_wordOfToken b 28 [(0, vR v0)] (r.toList ++ []) h' Q)) ∧ ((¬ (s0 = 0)) → Q (some (vI 1)) h)) : AW G mm_X6_wordOfToken b 17 [(0, vR v0)] [vI s0] h Q := by
  refine aw_if_eq (tgt := 22) dX6_wordOfToken_17 (by decide) (fun hc => ?_) (fun hc => ?_)
  · have k := k.1 hc
    refine aw_aload_n 0 dX6_wordOfToken_22 rfl rfl ?_
    refine aw_ldcA (a := -4) 2 rfl rfl dX6_wordOfToken_23 ⟨by decide, by decide⟩ (by decide) ?_
    obtain ⟨o1, k⟩ := k
    refine aw_callV (M' := mm_X6_isToken) 6 [vR (-4)] [] lk_X6_66 ⟨_, rfl, rfl⟩ dX6_wordOfToken_25 rfl (Nat.le_of_ble_eq_true rfl) ⟨by decide, by decide, Nat.zero_le _, Nat.zero_le _⟩ o1 ?_
    exact k
  · have k := k.2 hc
    refine aw_iconst dX6_wordOfToken_20 ⟨by decide, by decide⟩ ?_
    exact aw_iret dX6_wordOfToken_21 rfl k
set_option maxRecDepth 20000 in
theorem sg_X6_wordOfToken_28 {G : GG} {b : Nat × Nat} {Q : Option VV → Hp → Prop} {v0 s0 : Int} {h : Hp} (k : ((s0 = 0) → (h v0 (-1) = 7) ∧ Runs G mm_X6_isToken [vR v0, vR (-5)] h (fun r h' => AW G mm_X6_wordOfToken b 39 [(0, vR v0)] (r.toList ++ []) h' Q)) ∧ ((¬ (s0 = 0)) → Q (some (vI 2)) h)) : AW G mm_X6_wordOfToken b 28 [(0, vR v0)] [vI s0] h Q := by
  refine aw_if_eq (tgt := 33) dX6_wordOfToken_28 (by decide) (fun hc => ?_) (fun hc => ?_)
  · have k := k.1 hc
    refine aw_aload_n 0 dX6_wordOfToken_33 rfl rfl ?_
    refine aw_ldcA (a := -5) 3 rfl rfl dX6_wordOfToken_34 ⟨by decide, by decide⟩ (by decide) ?_
    obtain ⟨o1, k⟩ := k
    refine aw_callV (M' := mm_X6_isToken) 6 [vR (-5)] [] lk_X6_66 ⟨_, rfl, rfl⟩ dX6_wordOfToken_36 rfl (Nat.le_of_ble_eq_true rfl) ⟨by decide, by decide, Nat.zero_le _, Nat.zero_le _⟩ o1 ?_
    exact k
  · have k := k.2 hc
    refine aw_iconst dX6_wordOfToken_31 ⟨by decide, by decide⟩ ?_
    exact aw_iret dX6_wordOfToken_32 rfl k
set_option maxRecDepth 20000 in
theorem sg_X6_wordOfToken_39 {G : GG} {b : Nat × Nat} {Q : Option VV → Hp → Prop} {v0 s0 : Int} {h : Hp} (k : ((s0 = 0) → (h v0 (-1) = 7) ∧ Runs G mm_X6_isToken [vR v0, vR (-6)] h (fun r h' => AW G mm_X6_wordOfToken b 50 [(0, vR v0)] (r.toList ++ []) h' Q)) ∧ ((¬ (s0 = 0)) → Q (some (vI 3)) h)) : AW G mm_X6_wordOfToken b 39 [(0, vR v0)] [vI s0] h Q := by
  refine aw_if_eq (tgt := 44) dX6_wordOfToken_39 (by decide) (fun hc => ?_) (fun hc => ?_)
  · have k := k.1 hc
    refine aw_aload_n 0 dX6_wordOfToken_44 rfl rfl ?_
    refine aw_ldcA (a := -6) 4 rfl rfl dX6_wordOfToken_45 ⟨by decide, by decide⟩ (by decide) ?_
    obtain ⟨o1, k⟩ := k
    refine aw_callV (M' := mm_X6_isToken) 6 [vR (-6)] [] lk_X6_66 ⟨_, rfl, rfl⟩ dX6_wordOfToken_47 rfl (Nat.le_of_ble_eq_true rfl) ⟨by decide, by decide, Nat.zero_le _, Nat.zero_le _⟩ o1 ?_
    exact k
  · have k := k.2 hc
    refine aw_iconst dX6_wordOfToken_42 ⟨by decide, by decide⟩ ?_
    exact aw_iret dX6_wordOfToken_43 rfl k
set_option maxRecDepth 20000 in
theorem sg_X6_wordOfToken_50 {G : GG} {b : Nat × Nat} {Q : Option VV → Hp → Prop} {v0 s0 : Int} {h : Hp} (k : ((s0 = 0) → (h v0 (-1) = 7) ∧ Runs G mm_X6_isToken [vR v0, vR (-7)] h (fun r h' => AW G mm_X6_wordOfToken b 61 [] (r.toList ++ []) h' Q)) ∧ ((¬ (s0 = 0)) → Q (some (vI 4)) h)) : AW G mm_X6_wordOfToken b 50 [(0, vR v0)] [vI s0] h Q := by
  refine aw_if_eq (tgt := 55) dX6_wordOfToken_50 (by decide) (fun hc => ?_) (fun hc => ?_)
  · have k := k.1 hc
    refine aw_aload_n 0 dX6_wordOfToken_55 rfl rfl ?_
    refine aw_ldcA (a := -7) 5 rfl rfl dX6_wordOfToken_56 ⟨by decide, by decide⟩ (by decide) ?_
    obtain ⟨o1, k⟩ := k
    refine aw_callV (M' := mm_X6_isToken) 6 [vR (-7)] [] lk_X6_66 ⟨_, rfl, rfl⟩ dX6_wordOfToken_58 rfl (Nat.le_of_ble_eq_true rfl) ⟨by decide, by decide, Nat.zero_le _, Nat.zero_le _⟩ o1 ?_
    exact k.mono (fun _ _ z => aw_sub [] rfl z)
  · have k := k.2 hc
    refine aw_iconst dX6_wordOfToken_53 ⟨by decide, by decide⟩ ?_
    exact aw_iret dX6_wordOfToken_54 rfl k
set_option maxRecDepth 20000 in
theorem sg_X6_wordOfToken_61 {G : GG} {b : Nat × Nat} {Q : Option VV → Hp → Prop} {s0 : Int} {h : Hp} (k : ((s0 = 0) → Q (some (vI (-1))) h) ∧ ((¬ (s0 = 0)) → Q (some (vI 5)) h)) : AW G mm_X6_wordOfToken b 61 [] [vI s0] h Q := by
  refine aw_if_eq (tgt := 68) dX6_wordOfToken_61 (by decide) (fun hc => ?_) (fun hc => ?_)
  · have k := k.1 hc
    refine aw_iconst dX6_wordOfToken_68 ⟨by decide, by decide⟩ ?_
    exact aw_iret dX6_wordOfToken_69 rfl k
  · have k := k.2 hc
    refine aw_iconst dX6_wordOfToken_64 ⟨by decide, by decide⟩ ?_
    refine aw_goto (tgt := 69) dX6_wordOfToken_65 (by decide) ?_
    exact aw_iret dX6_wordOfToken_69 rfl k
