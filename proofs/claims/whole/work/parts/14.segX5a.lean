/-! printed by writeseg.py: segments of methods -/
set_option maxRecDepth 20000 in
theorem sg_X5_beAnswer_0 {G : GG} {b : Nat × Nat} {Q : Option VV → Hp → Prop} {v0 v1 v2 v3 : Int} {h : Hp} (k : (h v0 (-1) = 6) ∧ ∀ h1, h1 = wr h v0 2 v1 → ∀ h2, h2 = wr h1 v0 3 v2 → ∀ h3, h3 = wr h2 v0 4 v3 → Q none h3) : AW G mm_X5_beAnswer b 0 [(0, vR v0), (1, vI v1), (2, vI v2), (3, vI v3)] [] h Q := by
  refine aw_aload_n 0 dX5_beAnswer_0 rfl rfl ?_
  refine aw_iload_n 1 dX5_beAnswer_1 rfl rfl ?_
  obtain ⟨o1, k⟩ := k
  refine aw_putI dX5_beAnswer_2 fl_X5_18 (fun q hq hf => by cases hq; cases hf) rfl rfl o1 ?_
  refine aw_hp (fun h1 e2 => ?_)
  have k := k h1 e2
  refine aw_aload_n 0 dX5_beAnswer_5 rfl rfl ?_
  refine aw_iload_n 2 dX5_beAnswer_6 rfl rfl ?_
  have q3 := sh_w e2 (by decide) o1
  refine aw_putI dX5_beAnswer_7 fl_X5_21 (fun q hq hf => by cases hq; cases hf) rfl rfl q3 ?_
  refine aw_hp (fun h2 e4 => ?_)
  have k := k h2 e4
  refine aw_aload_n 0 dX5_beAnswer_10 rfl rfl ?_
  refine aw_iload_n 3 dX5_beAnswer_11 rfl rfl ?_
  have q5 := sh_w e4 (by decide) q3
  refine aw_putI dX5_beAnswer_12 fl_X5_24 (fun q hq hf => by cases hq; cases hf) rfl rfl q5 ?_
  refine aw_hp (fun h3 e6 => ?_)
  have k := k h3 e6
  exact aw_vret dX5_beAnswer_15 rfl k
theorem rn_X5_beAnswer {G : GG} {Q : Option VV → Hp → Prop} {v0 v1 v2 v3 : Int} {h : Hp} (k : (h v0 (-1) = 6) ∧ ∀ h1, h1 = wr h v0 2 v1 → ∀ h2, h2 = wr h1 v0 3 v2 → ∀ h3, h3 = wr h2 v0 4 v3 → Q none h3) : Runs G mm_X5_beAnswer [vR v0, vI v1, vI v2, vI v3] h Q := Runs.of (by decide +kernel) (Nat.le_of_ble_eq_true rfl) (sg_X5_beAnswer_0 (b := (0, 0)) k)
set_option maxRecDepth 20000 in
theorem sg_X5_beCopyOf_0 {G : GG} {b : Nat × Nat} {Q : Option VV → Hp → Prop} {v0 v1 : Int} {h : Hp} (k : (h v1 (-1) = 6) ∧ (h v0 (-1) = 6) ∧ ∀ h1, h1 = wr h v0 0 (h v1 0) → ∀ h2, h2 = wr h1 v0 1 (h1 v1 1) → ∀ h3, h3 = wr h2 v0 2 (h2 v1 2) → ∀ h4, h4 = wr h3 v0 3 (h3 v1 3) → ∀ h5, h5 = wr h4 v0 4 (h4 v1 4) → ∀ h6, h6 = wr h5 v0 5 (h5 v1 5) → ∀ h7, h7 = wr h6 v0 6 (h6 v1 6) → ∀ h8, h8 = wr h7 v0 7 (h7 v1 7) → ∀ h9, h9 = wr h8 v0 8 (h8 v1 8) → ∀ h10, h10 = wr h9 v0 9 (h9 v1 9) → Q none h10) : AW G mm_X5_beCopyOf b 0 [(0, vR v0), (1, vR v1)] [] h Q := by
  refine aw_aload_n 0 dX5_beCopyOf_0 rfl rfl ?_
  refine aw_aload_n 1 dX5_beCopyOf_1 rfl rfl ?_
  obtain ⟨o1, k⟩ := k
  refine aw_getI dX5_beCopyOf_2 fl_X5_9 rfl o1 (x := (h v1 0)) rfl ?_
  obtain ⟨o2, k⟩ := k
  refine aw_putI dX5_beCopyOf_5 fl_X5_9 (fun q hq hf => by cases hq; cases hf) rfl rfl o2 ?_
  refine aw_hp (fun h1 e3 => ?_)
  have k := k h1 e3
  refine aw_aload_n 0 dX5_beCopyOf_8 rfl rfl ?_
  refine aw_aload_n 1 dX5_beCopyOf_9 rfl rfl ?_
  have q4 := sh_w e3 (by decide) o1
  refine aw_getI dX5_beCopyOf_10 fl_X5_15 rfl q4 (x := (h1 v1 1)) rfl ?_
  have q5 := sh_w e3 (by decide) o2
  refine aw_putI dX5_beCopyOf_13 fl_X5_15 (fun q hq hf => by cases hq; cases hf) rfl rfl q5 ?_
  refine aw_hp (fun h2 e6 => ?_)
  have k := k h2 e6
  refine aw_aload_n 0 dX5_beCopyOf_16 rfl rfl ?_
  refine aw_aload_n 1 dX5_beCopyOf_17 rfl rfl ?_
  have q7 := sh_w e6 (by decide) q4
  refine aw_getI dX5_beCopyOf_18 fl_X5_18 rfl q7 (x := (h2 v1 2)) rfl ?_
  have q8 := sh_w e6 (by decide) q5
  refine aw_putI dX5_beCopyOf_21 fl_X5_18 (fun q hq hf => by cases hq; cases hf) rfl rfl q8 ?_
  refine aw_hp (fun h3 e9 => ?_)
  have k := k h3 e9
  refine aw_aload_n 0 dX5_beCopyOf_24 rfl rfl ?_
  refine aw_aload_n 1 dX5_beCopyOf_25 rfl rfl ?_
  have q10 := sh_w e9 (by decide) q7
  refine aw_getI dX5_beCopyOf_26 fl_X5_21 rfl q10 (x := (h3 v1 3)) rfl ?_
  have q11 := sh_w e9 (by decide) q8
  refine aw_putI dX5_beCopyOf_29 fl_X5_21 (fun q hq hf => by cases hq; cases hf) rfl rfl q11 ?_
  refine aw_hp (fun h4 e12 => ?_)
  have k := k h4 e12
  refine aw_aload_n 0 dX5_beCopyOf_32 rfl rfl ?_
  refine aw_aload_n 1 dX5_beCopyOf_33 rfl rfl ?_
  have q13 := sh_w e12 (by decide) q10
  refine aw_getI dX5_beCopyOf_34 fl_X5_24 rfl q13 (x := (h4 v1 4)) rfl ?_
  have q14 := sh_w e12 (by decide) q11
  refine aw_putI dX5_beCopyOf_37 fl_X5_24 (fun q hq hf => by cases hq; cases hf) rfl rfl q14 ?_
  refine aw_hp (fun h5 e15 => ?_)
  have k := k h5 e15
  refine aw_aload_n 0 dX5_beCopyOf_40 rfl rfl ?_
  refine aw_aload_n 1 dX5_beCopyOf_41 rfl rfl ?_
  have q16 := sh_w e15 (by decide) q13
  refine aw_getI dX5_beCopyOf_42 fl_X5_27 rfl q16 (x := (h5 v1 5)) rfl ?_
  have q17 := sh_w e15 (by decide) q14
  refine aw_putI dX5_beCopyOf_45 fl_X5_27 (fun q hq hf => by cases hq; cases hf) rfl rfl q17 ?_
  refine aw_hp (fun h6 e18 => ?_)
  have k := k h6 e18
  refine aw_aload_n 0 dX5_beCopyOf_48 rfl rfl ?_
  refine aw_aload_n 1 dX5_beCopyOf_49 rfl rfl ?_
  have q19 := sh_w e18 (by decide) q16
  refine aw_getI dX5_beCopyOf_50 fl_X5_30 rfl q19 (x := (h6 v1 6)) rfl ?_
  have q20 := sh_w e18 (by decide) q17
  refine aw_putI dX5_beCopyOf_53 fl_X5_30 (fun q hq hf => by cases hq; cases hf) rfl rfl q20 ?_
  refine aw_hp (fun h7 e21 => ?_)
  have k := k h7 e21
  refine aw_aload_n 0 dX5_beCopyOf_56 rfl rfl ?_
  refine aw_aload_n 1 dX5_beCopyOf_57 rfl rfl ?_
  have q22 := sh_w e21 (by decide) q19
  refine aw_getI dX5_beCopyOf_58 fl_X5_33 rfl q22 (x := (h7 v1 7)) rfl ?_
  have q23 := sh_w e21 (by decide) q20
  refine aw_putI dX5_beCopyOf_61 fl_X5_33 (fun q hq hf => by cases hq; cases hf) rfl rfl q23 ?_
  refine aw_hp (fun h8 e24 => ?_)
  have k := k h8 e24
  refine aw_aload_n 0 dX5_beCopyOf_64 rfl rfl ?_
  refine aw_aload_n 1 dX5_beCopyOf_65 rfl rfl ?_
  have q25 := sh_w e24 (by decide) q22
  refine aw_getI dX5_beCopyOf_66 fl_X5_36 rfl q25 (x := (h8 v1 8)) rfl ?_
  have q26 := sh_w e24 (by decide) q23
  refine aw_putI dX5_beCopyOf_69 fl_X5_36 (fun q hq hf => by cases hq; cases hf) rfl rfl q26 ?_
  refine aw_hp (fun h9 e27 => ?_)
  have k := k h9 e27
  refine aw_aload_n 0 dX5_beCopyOf_72 rfl rfl ?_
  refine aw_aload_n 1 dX5_beCopyOf_73 rfl rfl ?_
  have q28 := sh_w e27 (by decide) q25
  refine aw_getI dX5_beCopyOf_74 fl_X5_39 rfl q28 (x := (h9 v1 9)) rfl ?_
  have q29 := sh_w e27 (by decide) q26
  refine aw_putI dX5_beCopyOf_77 fl_X5_39 (fun q hq hf => by cases hq; cases hf) rfl rfl q29 ?_
  refine aw_hp (fun h10 e30 => ?_)
  have k := k h10 e30
  exact aw_vret dX5_beCopyOf_80 rfl k
theorem rn_X5_beCopyOf {G : GG} {Q : Option VV → Hp → Prop} {v0 v1 : Int} {h : Hp} (k : (h v1 (-1) = 6) ∧ (h v0 (-1) = 6) ∧ ∀ h1, h1 = wr h v0 0 (h v1 0) → ∀ h2, h2 = wr h1 v0 1 (h1 v1 1) → ∀ h3, h3 = wr h2 v0 2 (h2 v1 2) → ∀ h4, h4 = wr h3 v0 3 (h3 v1 3) → ∀ h5, h5 = wr h4 v0 4 (h4 v1 4) → ∀ h6, h6 = wr h5 v0 5 (h5 v1 5) → ∀ h7, h7 = wr h6 v0 6 (h6 v1 6) → ∀ h8, h8 = wr h7 v0 7 (h7 v1 7) → ∀ h9, h9 = wr h8 v0 8 (h8 v1 8) → ∀ h10, h10 = wr h9 v0 9 (h9 v1 9) → Q none h10) : Runs G mm_X5_beCopyOf [vR v0, vR v1] h Q := Runs.of (by decide +kernel) (Nat.le_of_ble_eq_true rfl) (sg_X5_beCopyOf_0 (b := (0, 0)) k)
set_option maxRecDepth 20000 in
theorem sg_X5_beRequest_0 {G : GG} {b : Nat × Nat} {Q : Option VV → Hp → Prop} {v0 v1 : Int} {h : Hp} (k : (h v0 (-1) = 6) ∧ ∀ h1, h1 = wr h v0 2 0 → (h v1 (-1) = 9) ∧ ∀ h2, h2 = wr h1 v0 3 (h v1 0) → ∀ h3, h3 = wr h2 v0 4 0 → ∀ h4, h4 = wr h3 v0 5 (h v1 1) → ∀ h5, h5 = wr h4 v0 6 (h v1 2) → ∀ h6, h6 = wr h5 v0 7 (h v1 3) → ∀ h7, h7 = wr h6 v0 8 (h v1 4) → ∀ h8, h8 = wr h7 v0 9 (h v1 5) → Q none h8) : AW G mm_X5_beRequest b 0 [(0, vR v0), (1, vR v1)] [] h Q := by
  refine aw_aload_n 0 dX5_beRequest_0 rfl rfl ?_
  refine aw_iconst dX5_beRequest_1 ⟨by decide, by decide⟩ ?_
  obtain ⟨o1, k⟩ := k
  refine aw_putI dX5_beRequest_2 fl_X5_18 (fun q hq hf => by cases hq; cases hf) rfl rfl o1 ?_
  refine aw_hp (fun h1 e2 => ?_)
  have k := k h1 e2
  refine aw_aload_n 0 dX5_beRequest_5 rfl rfl ?_
  refine aw_aload_n 1 dX5_beRequest_6 rfl rfl ?_
  obtain ⟨o3, k⟩ := k
  have q4 := sh_w e2 (by decide) o3
  refine aw_getI dX5_beRequest_7 fl_X5_42 rfl q4 (x := (h v1 0)) (rd_a e2 v1 0 (ne_sh o1 o3 (by decide))) ?_
  have q5 := sh_w e2 (by decide) o1
  refine aw_putI dX5_beRequest_10 fl_X5_21 (fun q hq hf => by cases hq; cases hf) rfl rfl q5 ?_
  refine aw_hp (fun h2 e6 => ?_)
  have k := k h2 e6
  refine aw_aload_n 0 dX5_beRequest_13 rfl rfl ?_
  refine aw_iconst dX5_beRequest_14 ⟨by decide, by decide⟩ ?_
  have q7 := sh_w e6 (by decide) q5
  refine aw_putI dX5_beRequest_15 fl_X5_24 (fun q hq hf => by cases hq; cases hf) rfl rfl q7 ?_
  refine aw_hp (fun h3 e8 => ?_)
  have k := k h3 e8
  refine aw_aload_n 0 dX5_beRequest_18 rfl rfl ?_
  refine aw_aload_n 1 dX5_beRequest_19 rfl rfl ?_
  have q9 := sh_w e6 (by decide) q4
  have q10 := sh_w e8 (by decide) q9
  refine aw_getI dX5_beRequest_20 fl_X5_45 rfl q10 (x := (h v1 1)) ((rd_a e8 v1 1 (ne_sh q7 q9 (by decide))).trans ((rd_a e6 v1 1 (ne_sh q5 q4 (by decide))).trans (rd_a e2 v1 1 (ne_sh o1 o3 (by decide))))) ?_
  have q11 := sh_w e8 (by decide) q7
  refine aw_putI dX5_beRequest_23 fl_X5_27 (fun q hq hf => by cases hq; cases hf) rfl rfl q11 ?_
  refine aw_hp (fun h4 e12 => ?_)
  have k := k h4 e12
  refine aw_aload_n 0 dX5_beRequest_26 rfl rfl ?_
  refine aw_aload_n 1 dX5_beRequest_27 rfl rfl ?_
  have q13 := sh_w e12 (by decide) q10
  refine aw_getI dX5_beRequest_28 fl_X5_46 rfl q13 (x := (h v1 2)) ((rd_a e12 v1 2 (ne_sh q11 q10 (by decide))).trans ((rd_a e8 v1 2 (ne_sh q7 q9 (by decide))).trans ((rd_a e6 v1 2 (ne_sh q5 q4 (by decide))).trans (rd_a e2 v1 2 (ne_sh o1 o3 (by decide)))))) ?_
  have q14 := sh_w e12 (by decide) q11
  refine aw_putI dX5_beRequest_31 fl_X5_30 (fun q hq hf => by cases hq; cases hf) rfl rfl q14 ?_
  refine aw_hp (fun h5 e15 => ?_)
  have k := k h5 e15
  refine aw_aload_n 0 dX5_beRequest_34 rfl rfl ?_
  refine aw_aload_n 1 dX5_beRequest_35 rfl rfl ?_
  have q16 := sh_w e15 (by decide) q13
  refine aw_getI dX5_beRequest_36 fl_X5_47 rfl q16 (x := (h v1 3)) ((rd_a e15 v1 3 (ne_sh q14 q13 (by decide))).trans ((rd_a e12 v1 3 (ne_sh q11 q10 (by decide))).trans ((rd_a e8 v1 3 (ne_sh q7 q9 (by decide))).trans ((rd_a e6 v1 3 (ne_sh q5 q4 (by decide))).trans (rd_a e2 v1 3 (ne_sh o1 o3 (by decide))))))) ?_
  have q17 := sh_w e15 (by decide) q14
  refine aw_putI dX5_beRequest_39 fl_X5_33 (fun q hq hf => by cases hq; cases hf) rfl rfl q17 ?_
  refine aw_hp (fun h6 e18 => ?_)
  have k := k h6 e18
  refine aw_aload_n 0 dX5_beRequest_42 rfl rfl ?_
  refine aw_aload_n 1 dX5_beRequest_43 rfl rfl ?_
  have q19 := sh_w e18 (by decide) q16
  refine aw_getI dX5_beRequest_44 fl_X5_48 rfl q19 (x := (h v1 4)) ((rd_a e18 v1 4 (ne_sh q17 q16 (by decide))).trans ((rd_a e15 v1 4 (ne_sh q14 q13 (by decide))).trans ((rd_a e12 v1 4 (ne_sh q11 q10 (by decide))).trans ((rd_a e8 v1 4 (ne_sh q7 q9 (by decide))).trans ((rd_a e6 v1 4 (ne_sh q5 q4 (by decide))).trans (rd_a e2 v1 4 (ne_sh o1 o3 (by decide)))))))) ?_
  have q20 := sh_w e18 (by decide) q17
  refine aw_putI dX5_beRequest_47 fl_X5_36 (fun q hq hf => by cases hq; cases hf) rfl rfl q20 ?_
  refine aw_hp (fun h7 e21 => ?_)
  have k := k h7 e21
  refine aw_aload_n 0 dX5_beRequest_50 rfl rfl ?_
  refine aw_aload_n 1 dX5_beRequest_51 rfl rfl ?_
  have q22 := sh_w e21 (by decide) q19
  refine aw_getI dX5_beRequest_52 fl_X5_49 rfl q22 (x := (h v1 5)) ((rd_a e21 v1 5 (ne_sh q20 q19 (by decide))).trans ((rd_a e18 v1 5 (ne_sh q17 q16 (by decide))).trans ((rd_a e15 v1 5 (ne_sh q14 q13 (by decide))).trans ((rd_a e12 v1 5 (ne_sh q11 q10 (by decide))).trans ((rd_a e8 v1 5 (ne_sh q7 q9 (by decide))).trans ((rd_a e6 v1 5 (ne_sh q5 q4 (by decide))).trans (rd_a e2 v1 5 (ne_sh o1 o3 (by decide))))))))) ?_
  have q23 := sh_w e21 (by decide) q20
  refine aw_putI dX5_beRequest_55 fl_X5_39 (fun q hq hf => by cases hq; cases hf) rfl rfl q23 ?_
  refine aw_hp (fun h8 e24 => ?_)
  have k := k h8 e24
  exact aw_vret dX5_beRequest_58 rfl k
theorem rn_X5_beRequest {G : GG} {Q : Option VV → Hp → Prop} {v0 v1 : Int} {h : Hp} (k : (h v0 (-1) = 6) ∧ ∀ h1, h1 = wr h v0 2 0 → (h v1 (-1) = 9) ∧ ∀ h2, h2 = wr h1 v0 3 (h v1 0) → ∀ h3, h3 = wr h2 v0 4 0 → ∀ h4, h4 = wr h3 v0 5 (h v1 1) → ∀ h5, h5 = wr h4 v0 6 (h v1 2) → ∀ h6, h6 = wr h5 v0 7 (h v1 3) → ∀ h7, h7 = wr h6 v0 8 (h v1 4) → ∀ h8, h8 = wr h7 v0 9 (h v1 5) → Q none h8) : Runs G mm_X5_beRequest [vR v0, vR v1] h Q := Runs.of (by decide +kernel) (Nat.le_of_ble_eq_true rfl) (sg_X5_beRequest_0 (b := (0, 0)) k)
set_option maxRecDepth 20000 in
theorem sg_X5_init_0 {G : GG} {b : Nat × Nat} {Q : Option VV → Hp → Prop} {v0 : Int} {h : Hp} (k : (h v0 (-1) = 6) ∧ ∀ h1, h1 = wr h v0 0 0 → ∀ h2, h2 = wr h1 v0 1 0 → ∀ h3, h3 = wr h2 v0 2 0 → ∀ h4, h4 = wr h3 v0 3 0 → ∀ h5, h5 = wr h4 v0 4 0 → ∀ h6, h6 = wr h5 v0 5 0 → ∀ h7, h7 = wr h6 v0 6 0 → ∀ h8, h8 = wr h7 v0 7 0 → ∀ h9, h9 = wr h8 v0 8 0 → ∀ h10, h10 = wr h9 v0 9 0 → Q none h10) : AW G mm_X5_init b 0 [(0, vR v0)] [] h Q := by
  refine aw_aload_n 0 dX5_init_0 rfl rfl ?_
  obtain ⟨o1, k⟩ := k
  refine aw_use (fun _ _ oz2 => ?_)
  refine aw_obj lo_X5_3 dX5_init_1 (nz_s oz2 o1 (by decide)) ⟨by decide, Nat.le_of_ble_eq_true rfl⟩ ?_
  refine aw_aload_n 0 dX5_init_4 rfl rfl ?_
  refine aw_iconst dX5_init_5 ⟨by decide, by decide⟩ ?_
  refine aw_putI dX5_init_6 fl_X5_9 (fun q hq hf => by cases hq; cases hf) rfl rfl o1 ?_
  refine aw_hp (fun h1 e3 => ?_)
  have k := k h1 e3
  refine aw_aload_n 0 dX5_init_9 rfl rfl ?_
  refine aw_iconst dX5_init_10 ⟨by decide, by decide⟩ ?_
  have q4 := sh_w e3 (by decide) o1
  refine aw_putI dX5_init_11 fl_X5_15 (fun q hq hf => by cases hq; cases hf) rfl rfl q4 ?_
  refine aw_hp (fun h2 e5 => ?_)
  have k := k h2 e5
  refine aw_aload_n 0 dX5_init_14 rfl rfl ?_
  refine aw_iconst dX5_init_15 ⟨by decide, by decide⟩ ?_
  have q6 := sh_w e5 (by decide) q4
  refine aw_putI dX5_init_16 fl_X5_18 (fun q hq hf => by cases hq; cases hf) rfl rfl q6 ?_
  refine aw_hp (fun h3 e7 => ?_)
  have k := k h3 e7
  refine aw_aload_n 0 dX5_init_19 rfl rfl ?_
  refine aw_iconst dX5_init_20 ⟨by decide, by decide⟩ ?_
  have q8 := sh_w e7 (by decide) q6
  refine aw_putI dX5_init_21 fl_X5_21 (fun q hq hf => by cases hq; cases hf) rfl rfl q8 ?_
  refine aw_hp (fun h4 e9 => ?_)
  have k := k h4 e9
  refine aw_aload_n 0 dX5_init_24 rfl rfl ?_
  refine aw_iconst dX5_init_25 ⟨by decide, by decide⟩ ?_
  have q10 := sh_w e9 (by decide) q8
  refine aw_putI dX5_init_26 fl_X5_24 (fun q hq hf => by cases hq; cases hf) rfl rfl q10 ?_
  refine aw_hp (fun h5 e11 => ?_)
  have k := k h5 e11
  refine aw_aload_n 0 dX5_init_29 rfl rfl ?_
  refine aw_iconst dX5_init_30 ⟨by decide, by decide⟩ ?_
  have q12 := sh_w e11 (by decide) q10
  refine aw_putI dX5_init_31 fl_X5_27 (fun q hq hf => by cases hq; cases hf) rfl rfl q12 ?_
  refine aw_hp (fun h6 e13 => ?_)
  have k := k h6 e13
  refine aw_aload_n 0 dX5_init_34 rfl rfl ?_
  refine aw_iconst dX5_init_35 ⟨by decide, by decide⟩ ?_
  have q14 := sh_w e13 (by decide) q12
  refine aw_putI dX5_init_36 fl_X5_30 (fun q hq hf => by cases hq; cases hf) rfl rfl q14 ?_
  refine aw_hp (fun h7 e15 => ?_)
  have k := k h7 e15
  refine aw_aload_n 0 dX5_init_39 rfl rfl ?_
  refine aw_iconst dX5_init_40 ⟨by decide, by decide⟩ ?_
  have q16 := sh_w e15 (by decide) q14
  refine aw_putI dX5_init_41 fl_X5_33 (fun q hq hf => by cases hq; cases hf) rfl rfl q16 ?_
  refine aw_hp (fun h8 e17 => ?_)
  have k := k h8 e17
  refine aw_aload_n 0 dX5_init_44 rfl rfl ?_
  refine aw_iconst dX5_init_45 ⟨by decide, by decide⟩ ?_
  have q18 := sh_w e17 (by decide) q16
  refine aw_putI dX5_init_46 fl_X5_36 (fun q hq hf => by cases hq; cases hf) rfl rfl q18 ?_
  refine aw_hp (fun h9 e19 => ?_)
  have k := k h9 e19
  refine aw_aload_n 0 dX5_init_49 rfl rfl ?_
  refine aw_iconst dX5_init_50 ⟨by decide, by decide⟩ ?_
  have q20 := sh_w e19 (by decide) q18
  refine aw_putI dX5_init_51 fl_X5_39 (fun q hq hf => by cases hq; cases hf) rfl rfl q20 ?_
  refine aw_hp (fun h10 e21 => ?_)
  have k := k h10 e21
  exact aw_vret dX5_init_54 rfl k
theorem rn_X5_init {G : GG} {Q : Option VV → Hp → Prop} {v0 : Int} {h : Hp} (k : (h v0 (-1) = 6) ∧ ∀ h1, h1 = wr h v0 0 0 → ∀ h2, h2 = wr h1 v0 1 0 → ∀ h3, h3 = wr h2 v0 2 0 → ∀ h4, h4 = wr h3 v0 3 0 → ∀ h5, h5 = wr h4 v0 4 0 → ∀ h6, h6 = wr h5 v0 5 0 → ∀ h7, h7 = wr h6 v0 6 0 → ∀ h8, h8 = wr h7 v0 7 0 → ∀ h9, h9 = wr h8 v0 8 0 → ∀ h10, h10 = wr h9 v0 9 0 → Q none h10) : Runs G mm_X5_init [vR v0] h Q := Runs.of (by decide +kernel) (Nat.le_of_ble_eq_true rfl) (sg_X5_init_0 (b := (0, 0)) k)
