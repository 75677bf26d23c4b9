/-! printed by writeseg.py: segments of methods -/
set_option maxRecDepth 20000 in
theorem sg_X4_init_0 {G : GG} {b : Nat × Nat} {Q : Option VV → Hp → Prop} {v0 v1 v2 v3 v4 v5 : Int} {h : Hp} (k : (h v0 (-1) = 5) ∧ ∀ h1, h1 = wr h v0 5 0 → ∀ h2, h2 = wr h1 v0 0 v1 → ∀ h3, h3 = wr h2 v0 1 v2 → ∀ h4, h4 = wr h3 v0 2 v3 → ∀ h5, h5 = wr h4 v0 3 v4 → ∀ h6, h6 = wr h5 v0 4 v5 → Q none h6) : AW G mm_X4_init b 0 [(0, vR v0), (1, vI v1), (2, vI v2), (3, vI v3), (4, vI v4), (5, vI v5)] [] h Q := by
  refine aw_aload_n 0 dX4_init_0 rfl rfl ?_
  obtain ⟨o1, k⟩ := k
  refine aw_use (fun _ _ oz2 => ?_)
  refine aw_obj lo_X4_1 dX4_init_1 (nz_s oz2 o1 (by decide)) ⟨by decide, Nat.le_of_ble_eq_true rfl⟩ ?_
  refine aw_aload_n 0 dX4_init_4 rfl rfl ?_
  refine aw_null dX4_init_5 ?_
  refine aw_putR dX4_init_6 fl_X4_7 (fun q hq hf => by cases hq; cases hf) rfl rfl o1 ?_
  refine aw_hp (fun h1 e3 => ?_)
  have k := k h1 e3
  refine aw_aload_n 0 dX4_init_9 rfl rfl ?_
  refine aw_iload_n 1 dX4_init_10 rfl rfl ?_
  have q4 := sh_w e3 (by decide) o1
  refine aw_putI dX4_init_11 fl_X4_13 (fun q hq _ => by cases hq; exact ⟨rfl, rfl⟩) rfl rfl q4 ?_
  refine aw_hp (fun h2 e5 => ?_)
  have k := k h2 e5
  refine aw_aload_n 0 dX4_init_14 rfl rfl ?_
  refine aw_iload_n 2 dX4_init_15 rfl rfl ?_
  have q6 := sh_w e5 (by decide) q4
  refine aw_putI dX4_init_16 fl_X4_17 (fun q hq _ => by cases hq; exact ⟨rfl, rfl⟩) rfl rfl q6 ?_
  refine aw_hp (fun h3 e7 => ?_)
  have k := k h3 e7
  refine aw_aload_n 0 dX4_init_19 rfl rfl ?_
  refine aw_iload_n 3 dX4_init_20 rfl rfl ?_
  have q8 := sh_w e7 (by decide) q6
  refine aw_putI dX4_init_21 fl_X4_20 (fun q hq _ => by cases hq; exact ⟨rfl, rfl⟩) rfl rfl q8 ?_
  refine aw_hp (fun h4 e9 => ?_)
  have k := k h4 e9
  refine aw_aload_n 0 dX4_init_24 rfl rfl ?_
  refine aw_iload 4 dX4_init_25 rfl ?_
  have q10 := sh_w e9 (by decide) q8
  refine aw_putI dX4_init_27 fl_X4_23 (fun q hq _ => by cases hq; exact ⟨rfl, rfl⟩) rfl rfl q10 ?_
  refine aw_hp (fun h5 e11 => ?_)
  have k := k h5 e11
  refine aw_aload_n 0 dX4_init_30 rfl rfl ?_
  refine aw_iload 5 dX4_init_31 rfl ?_
  have q12 := sh_w e11 (by decide) q10
  refine aw_putI dX4_init_33 fl_X4_26 (fun q hq _ => by cases hq; exact ⟨rfl, rfl⟩) rfl rfl q12 ?_
  refine aw_hp (fun h6 e13 => ?_)
  have k := k h6 e13
  exact aw_vret dX4_init_36 rfl k
theorem rn_X4_init {G : GG} {Q : Option VV → Hp → Prop} {v0 v1 v2 v3 v4 v5 : Int} {h : Hp} (k : (h v0 (-1) = 5) ∧ ∀ h1, h1 = wr h v0 5 0 → ∀ h2, h2 = wr h1 v0 0 v1 → ∀ h3, h3 = wr h2 v0 1 v2 → ∀ h4, h4 = wr h3 v0 2 v3 → ∀ h5, h5 = wr h4 v0 3 v4 → ∀ h6, h6 = wr h5 v0 4 v5 → Q none h6) : Runs G mm_X4_init [vR v0, vI v1, vI v2, vI v3, vI v4, vI v5] h Q := Runs.of (by decide +kernel) (Nat.le_of_ble_eq_true rfl) (sg_X4_init_0 (b := (0, 0)) k)
