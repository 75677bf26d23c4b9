/-! printed by writeseg.py: segments of methods -/
set_option maxRecDepth 20000 in
theorem sg_X8_init_0 {G : GG} {b : Nat × Nat} {Q : Option VV → Hp → Prop} {v0 : Int} {h : Hp} (k : (h v0 (-1) = 9) ∧ ∀ h1, h1 = wr h v0 0 0 → ∀ h2, h2 = wr h1 v0 1 0 → ∀ h3, h3 = wr h2 v0 2 0 → ∀ h4, h4 = wr h3 v0 3 0 → ∀ h5, h5 = wr h4 v0 4 0 → ∀ h6, h6 = wr h5 v0 5 0 → ∀ h7, h7 = wr h6 v0 6 0 → Q none h7) : AW G mm_X8_init b 0 [(0, vR v0)] [] h Q := by
  refine aw_aload_n 0 dX8_init_0 rfl rfl ?_
  obtain ⟨o1, k⟩ := k
  refine aw_use (fun _ _ oz2 => ?_)
  refine aw_obj lo_X8_1 dX8_init_1 (nz_s oz2 o1 (by decide)) ⟨by decide, Nat.le_of_ble_eq_true rfl⟩ ?_
  refine aw_aload_n 0 dX8_init_4 rfl rfl ?_
  refine aw_iconst dX8_init_5 ⟨by decide, by decide⟩ ?_
  refine aw_putI dX8_init_6 fl_X8_7 (fun q hq hf => by cases hq; cases hf) rfl rfl o1 ?_
  refine aw_hp (fun h1 e3 => ?_)
  have k := k h1 e3
  refine aw_aload_n 0 dX8_init_9 rfl rfl ?_
  refine aw_iconst dX8_init_10 ⟨by decide, by decide⟩ ?_
  have q4 := sh_w e3 (by decide) o1
  refine aw_putI dX8_init_11 fl_X8_13 (fun q hq hf => by cases hq; cases hf) rfl rfl q4 ?_
  refine aw_hp (fun h2 e5 => ?_)
  have k := k h2 e5
  refine aw_aload_n 0 dX8_init_14 rfl rfl ?_
  refine aw_iconst dX8_init_15 ⟨by decide, by decide⟩ ?_
  have q6 := sh_w e5 (by decide) q4
  refine aw_putI dX8_init_16 fl_X8_16 (fun q hq hf => by cases hq; cases hf) rfl rfl q6 ?_
  refine aw_hp (fun h3 e7 => ?_)
  have k := k h3 e7
  refine aw_aload_n 0 dX8_init_19 rfl rfl ?_
  refine aw_iconst dX8_init_20 ⟨by decide, by decide⟩ ?_
  have q8 := sh_w e7 (by decide) q6
  refine aw_putI dX8_init_21 fl_X8_19 (fun q hq hf => by cases hq; cases hf) rfl rfl q8 ?_
  refine aw_hp (fun h4 e9 => ?_)
  have k := k h4 e9
  refine aw_aload_n 0 dX8_init_24 rfl rfl ?_
  refine aw_iconst dX8_init_25 ⟨by decide, by decide⟩ ?_
  have q10 := sh_w e9 (by decide) q8
  refine aw_putI dX8_init_26 fl_X8_22 (fun q hq hf => by cases hq; cases hf) rfl rfl q10 ?_
  refine aw_hp (fun h5 e11 => ?_)
  have k := k h5 e11
  refine aw_aload_n 0 dX8_init_29 rfl rfl ?_
  refine aw_iconst dX8_init_30 ⟨by decide, by decide⟩ ?_
  have q12 := sh_w e11 (by decide) q10
  refine aw_putI dX8_init_31 fl_X8_25 (fun q hq hf => by cases hq; cases hf) rfl rfl q12 ?_
  refine aw_hp (fun h6 e13 => ?_)
  have k := k h6 e13
  refine aw_aload_n 0 dX8_init_34 rfl rfl ?_
  refine aw_iconst dX8_init_35 ⟨by decide, by decide⟩ ?_
  have q14 := sh_w e13 (by decide) q12
  refine aw_putI dX8_init_36 fl_X8_28 (fun q hq hf => by cases hq; cases hf) rfl rfl q14 ?_
  refine aw_hp (fun h7 e15 => ?_)
  have k := k h7 e15
  exact aw_vret dX8_init_39 rfl k
theorem rn_X8_init {G : GG} {Q : Option VV → Hp → Prop} {v0 : Int} {h : Hp} (k : (h v0 (-1) = 9) ∧ ∀ h1, h1 = wr h v0 0 0 → ∀ h2, h2 = wr h1 v0 1 0 → ∀ h3, h3 = wr h2 v0 2 0 → ∀ h4, h4 = wr h3 v0 3 0 → ∀ h5, h5 = wr h4 v0 4 0 → ∀ h6, h6 = wr h5 v0 5 0 → ∀ h7, h7 = wr h6 v0 6 0 → Q none h7) : Runs G mm_X8_init [vR v0] h Q := Runs.of (by decide +kernel) (Nat.le_of_ble_eq_true rfl) (sg_X8_init_0 (b := (0, 0)) k)
