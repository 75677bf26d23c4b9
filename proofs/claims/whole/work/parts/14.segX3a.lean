/-! printed by writeseg.py: segments of methods -/
set_option maxRecDepth 20000 in
theorem sg_X3_init_0 {G : GG} {b : Nat × Nat} {Q : Option VV → Hp → Prop} {v0 : Int} {h : Hp} (k : (h v0 (-1) = 4) ∧ ∀ h1, h1 = wr h v0 0 0 → ∀ h2, h2 = wr h1 v0 1 0 → ∀ h3, h3 = wr h2 v0 2 0 → ∀ h4, h4 = wr h3 v0 3 0 → Q none h4) : AW G mm_X3_init b 0 [(0, vR v0)] [] h Q := by
  refine aw_aload_n 0 dX3_init_0 rfl rfl ?_
  obtain ⟨o1, k⟩ := k
  refine aw_use (fun _ _ oz2 => ?_)
  refine aw_obj lo_X3_1 dX3_init_1 (nz_s oz2 o1 (by decide)) ⟨by decide, Nat.le_of_ble_eq_true rfl⟩ ?_
  refine aw_aload_n 0 dX3_init_4 rfl rfl ?_
  refine aw_iconst dX3_init_5 ⟨by decide, by decide⟩ ?_
  refine aw_putZ dX3_init_6 fl_X3_7 (fun q hq hf => by cases hq; cases hf) rfl rfl (by decide) o1 ?_
  refine aw_hp (fun h1 e3 => ?_)
  have k := k h1 e3
  refine aw_aload_n 0 dX3_init_9 rfl rfl ?_
  refine aw_iconst dX3_init_10 ⟨by decide, by decide⟩ ?_
  have q4 := sh_w e3 (by decide) o1
  refine aw_putI dX3_init_11 fl_X3_13 (fun q hq hf => by cases hq; cases hf) rfl rfl q4 ?_
  refine aw_hp (fun h2 e5 => ?_)
  have k := k h2 e5
  refine aw_aload_n 0 dX3_init_14 rfl rfl ?_
  refine aw_iconst dX3_init_15 ⟨by decide, by decide⟩ ?_
  have q6 := sh_w e5 (by decide) q4
  refine aw_putI dX3_init_16 fl_X3_17 (fun q hq hf => by cases hq; cases hf) rfl rfl q6 ?_
  refine aw_hp (fun h3 e7 => ?_)
  have k := k h3 e7
  refine aw_aload_n 0 dX3_init_19 rfl rfl ?_
  refine aw_iconst dX3_init_20 ⟨by decide, by decide⟩ ?_
  have q8 := sh_w e7 (by decide) q6
  refine aw_putI dX3_init_21 fl_X3_20 (fun q hq hf => by cases hq; cases hf) rfl rfl q8 ?_
  refine aw_hp (fun h4 e9 => ?_)
  have k := k h4 e9
  exact aw_vret dX3_init_24 rfl k
theorem rn_X3_init {G : GG} {Q : Option VV → Hp → Prop} {v0 : Int} {h : Hp} (k : (h v0 (-1) = 4) ∧ ∀ h1, h1 = wr h v0 0 0 → ∀ h2, h2 = wr h1 v0 1 0 → ∀ h3, h3 = wr h2 v0 2 0 → ∀ h4, h4 = wr h3 v0 3 0 → Q none h4) : Runs G mm_X3_init [vR v0] h Q := Runs.of (by decide +kernel) (Nat.le_of_ble_eq_true rfl) (sg_X3_init_0 (b := (0, 0)) k)
