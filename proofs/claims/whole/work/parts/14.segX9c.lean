/-! printed by writeseg.py: segments of methods -/
set_option maxRecDepth 20000 in
theorem sg_X9_tick_0 {G : GG} {b : Nat × Nat} {Q : Option VV → Hp → Prop} {v0 v1 : Int} {h : Hp} (k : ((¬ (v1 < 0 ∨ 3 < v1)) → (h v0 (-1) = 10) ∧ (h (h v0 1) (-1) = 31) ∧ (0 ≤ v1) ∧ (v1 < h (h v0 1) (-2)) ∧ (h (h (h v0 1) v1) (-1) = 2) ∧ ((¬ (h (h (h v0 1) v1) 6) = 1) → Q (some (vI (-1003))) h) ∧ (((h (h (h v0 1) v1) 6) = 1) → ((¬ (h (h (h v0 1) v1) 8) = 0) → (8 ≤ b.1) ∧ (48 ≤ b.2) ∧ Runs G mm_X1_tryAgain [vR (h (h v0 1) v1)] h (fun r h' => AW G mm_X9_tick (b.1 - 8, b.2 - 48) 49 [(0, vR v0), (1, vI v1)] (r.toList ++ []) h' Q)) ∧ (((h (h (h v0 1) v1) 8) = 0) → Q (some (vI (-1003))) h))) ∧ ((v1 < 0 ∨ 3 < v1) → Q (some (vI (-1001))) h)) : AW G mm_X9_tick b 0 [(0, vR v0), (1, vI v1)] [] h Q := by
  refine aw_iload_n 1 dX9_tick_0 rfl rfl ?_
  refine aw_callS (M' := mm_X9_isNoEnd) [vI v1] [] lk_X9_170 dX9_tick_1 rfl (Nat.le_of_ble_eq_true rfl) ⟨by decide, by decide, Nat.zero_le _, Nat.zero_le _⟩ ?_
  refine pu_X9_isNoEnd ?_
  refine aw_if_eq (tgt := 11) dX9_tick_4 (by decide) (fun hc => ?_) (fun hc => ?_)
  · have k := k.1 (b2i_0.mp hc)
    refine aw_aload_n 0 dX9_tick_11 rfl rfl ?_
    obtain ⟨o1, k⟩ := k
    refine aw_getR dX9_tick_12 fl_X9_17 rfl o1 (x := (h v0 1)) rfl ?_
    refine aw_iload_n 1 dX9_tick_15 rfl rfl ?_
    obtain ⟨o2, k⟩ := k
    obtain ⟨o3, k⟩ := k
    obtain ⟨o4, k⟩ := k
    refine aw_aald 3 1 aq_1 dX9_tick_16 o2 o3 o4 (x := (h (h v0 1) v1)) rfl ?_
    obtain ⟨o5, k⟩ := k
    refine aw_getI dX9_tick_17 fl_X9_158 rfl o5 (x := (h (h (h v0 1) v1) 6)) rfl ?_
    refine aw_iconst dX9_tick_20 ⟨by decide, by decide⟩ ?_
    refine aw_icmp_ne (tgt := 36) dX9_tick_21 (by decide) (fun hc => ?_) (fun hc => ?_)
    · have k := k.1 hc
      refine aw_sipush dX9_tick_36 ⟨by decide, by decide⟩ (by decide) ?_
      exact aw_iret dX9_tick_39 rfl k
    · have k := k.2 hc
      refine aw_aload_n 0 dX9_tick_24 rfl rfl ?_
      refine aw_getR dX9_tick_25 fl_X9_17 rfl o1 (x := (h v0 1)) rfl ?_
      refine aw_iload_n 1 dX9_tick_28 rfl rfl ?_
      refine aw_aald 3 1 aq_1 dX9_tick_29 o2 o3 o4 (x := (h (h v0 1) v1)) rfl ?_
      refine aw_getI dX9_tick_30 fl_X9_173 rfl o5 (x := (h (h (h v0 1) v1) 8)) rfl ?_
      refine aw_if_ne (tgt := 40) dX9_tick_33 (by decide) (fun hc => ?_) (fun hc => ?_)
      · have k := k.1 hc
        refine aw_aload_n 0 dX9_tick_40 rfl rfl ?_
        refine aw_getR dX9_tick_41 fl_X9_17 rfl o1 (x := (h v0 1)) rfl ?_
        refine aw_iload_n 1 dX9_tick_44 rfl rfl ?_
        refine aw_aald 3 1 aq_1 dX9_tick_45 o2 o3 o4 (x := (h (h v0 1) v1)) rfl ?_
        obtain ⟨o6, k⟩ := k
        obtain ⟨o7, k⟩ := k
        refine aw_callV (M' := mm_X1_tryAgain) 1 [] [] lk_X9_220 ⟨_, rfl, rfl⟩ dX9_tick_46 rfl (Nat.le_of_ble_eq_true rfl) ⟨by decide, by decide, o6, o7⟩ o5 ?_
        exact k
      · have k := k.2 hc
        refine aw_sipush dX9_tick_36 ⟨by decide, by decide⟩ (by decide) ?_
        exact aw_iret dX9_tick_39 rfl k
  · have k := k.2 (b2i_n.mp hc)
    refine aw_sipush dX9_tick_7 ⟨by decide, by decide⟩ (by decide) ?_
    exact aw_iret dX9_tick_10 rfl k
theorem rn_X9_tick {G : GG} {Q : Option VV → Hp → Prop} {v0 v1 : Int} {h : Hp} (k : ((¬ (v1 < 0 ∨ 3 < v1)) → (h v0 (-1) = 10) ∧ (h (h v0 1) (-1) = 31) ∧ (0 ≤ v1) ∧ (v1 < h (h v0 1) (-2)) ∧ (h (h (h v0 1) v1) (-1) = 2) ∧ ((¬ (h (h (h v0 1) v1) 6) = 1) → Q (some (vI (-1003))) h) ∧ (((h (h (h v0 1) v1) 6) = 1) → ((¬ (h (h (h v0 1) v1) 8) = 0) → (8 ≤ 8) ∧ (48 ≤ 48) ∧ Runs G mm_X1_tryAgain [vR (h (h v0 1) v1)] h (fun r h' => AW G mm_X9_tick (8 - 8, 48 - 48) 49 [(0, vR v0), (1, vI v1)] (r.toList ++ []) h' Q)) ∧ (((h (h (h v0 1) v1) 8) = 0) → Q (some (vI (-1003))) h))) ∧ ((v1 < 0 ∨ 3 < v1) → Q (some (vI (-1001))) h)) : Runs G mm_X9_tick [vR v0, vI v1] h Q := Runs.of (by decide +kernel) (Nat.le_of_ble_eq_true rfl) (sg_X9_tick_0 (b := (8, 48)) k)
set_option maxRecDepth 20000 in
theorem sg_X9_tick_49 {G : GG} {b : Nat × Nat} {Q : Option VV → Hp → Prop} {v0 v1 : Int} {h : Hp} (k : (h v0 (-1) = 10) ∧ (h (h v0 1) (-1) = 31) ∧ (0 ≤ v1) ∧ (v1 < h (h v0 1) (-2)) ∧ (h (h (h v0 1) v1) (-1) = 2) ∧ Q (some (vI (h (h (h v0 1) v1) 11))) h) : AW G mm_X9_tick b 49 [(0, vR v0), (1, vI v1)] [] h Q := by
  refine aw_aload_n 0 dX9_tick_49 rfl rfl ?_
  obtain ⟨o1, k⟩ := k
  refine aw_getR dX9_tick_50 fl_X9_17 rfl o1 (x := (h v0 1)) rfl ?_
  refine aw_iload_n 1 dX9_tick_53 rfl rfl ?_
  obtain ⟨o2, k⟩ := k
  obtain ⟨o3, k⟩ := k
  obtain ⟨o4, k⟩ := k
  refine aw_aald 3 1 aq_1 dX9_tick_54 o2 o3 o4 (x := (h (h v0 1) v1)) rfl ?_
  obtain ⟨o5, k⟩ := k
  refine aw_getI dX9_tick_55 fl_X9_223 rfl o5 (x := (h (h (h v0 1) v1) 11)) rfl ?_
  exact aw_iret dX9_tick_58 rfl k
set_option maxRecDepth 20000 in
theorem sg_X9_write_0 {G : GG} {b : Nat × Nat} {Q : Option VV → Hp → Prop} {v0 v1 : Int} {h : Hp} (k : ((¬ (v1 < 0 ∨ 255 < v1)) → (h v0 (-1) = 10) ∧ (h (h v0 3) (-1) = 7) ∧ (((h (h v0 3) 2) < 200) → (0 ≤ v1) ∧ (v1 < 65536) ∧ Runs G mm_X6_append [vR (h v0 3), vI v1] h (fun r h' => AW G mm_X9_write b 41 [(0, vR v0)] (r.toList ++ []) h' Q)) ∧ ((¬ ((h (h v0 3) 2) < 200)) → Q (some (vI (-1004))) h)) ∧ ((v1 < 0 ∨ 255 < v1) → Q (some (vI (-1002))) h)) : AW G mm_X9_write b 0 [(0, vR v0), (1, vI v1)] [] h Q := by
  refine aw_iload_n 1 dX9_write_0 rfl rfl ?_
  refine aw_iconst dX9_write_1 ⟨by decide, by decide⟩ ?_
  refine aw_sipush dX9_write_2 ⟨by decide, by decide⟩ (by decide) ?_
  refine aw_callS (M' := mm_X9_isOutside) [vI v1, vI 0, vI 255] [] lk_X9_47 dX9_write_5 rfl (Nat.le_of_ble_eq_true rfl) ⟨by decide, by decide, Nat.zero_le _, Nat.zero_le _⟩ ?_
  refine pu_X9_isOutside ?_
  refine aw_if_eq (tgt := 15) dX9_write_8 (by decide) (fun hc => ?_) (fun hc => ?_)
  · have k := k.1 (b2i_0.mp hc)
    refine aw_aload_n 0 dX9_write_15 rfl rfl ?_
    obtain ⟨o1, k⟩ := k
    refine aw_getR dX9_write_16 fl_X9_31 rfl o1 (x := (h v0 3)) rfl ?_
    obtain ⟨o2, k⟩ := k
    refine aw_getI dX9_write_19 fl_X9_51 rfl o2 (x := (h (h v0 3) 2)) rfl ?_
    refine aw_sipush dX9_write_22 ⟨by decide, by decide⟩ (by decide) ?_
    refine aw_icmp_lt (tgt := 32) dX9_write_25 (by decide) (fun hc => ?_) (fun hc => ?_)
    · have k := k.1 hc
      refine aw_aload_n 0 dX9_write_32 rfl rfl ?_
      refine aw_getR dX9_write_33 fl_X9_31 rfl o1 (x := (h v0 3)) rfl ?_
      refine aw_iload_n 1 dX9_write_36 rfl rfl ?_
      obtain ⟨o3, k⟩ := k
      obtain ⟨o4, k⟩ := k
      refine aw_i2c dX9_write_37 o3 o4 ?_
      refine aw_callV (M' := mm_X6_append) 6 [vI v1] [] lk_X9_54 ⟨_, rfl, rfl⟩ dX9_write_38 rfl (Nat.le_of_ble_eq_true rfl) ⟨by decide, by decide, Nat.zero_le _, Nat.zero_le _⟩ o2 ?_
      exact k.mono (fun _ _ z => aw_sub [0] rfl z)
    · have k := k.2 hc
      refine aw_sipush dX9_write_28 ⟨by decide, by decide⟩ (by decide) ?_
      exact aw_iret dX9_write_31 rfl k
  · have k := k.2 (b2i_n.mp hc)
    refine aw_sipush dX9_write_11 ⟨by decide, by decide⟩ (by decide) ?_
    exact aw_iret dX9_write_14 rfl k
theorem rn_X9_write {G : GG} {Q : Option VV → Hp → Prop} {v0 v1 : Int} {h : Hp} (k : ((¬ (v1 < 0 ∨ 255 < v1)) → (h v0 (-1) = 10) ∧ (h (h v0 3) (-1) = 7) ∧ (((h (h v0 3) 2) < 200) → (0 ≤ v1) ∧ (v1 < 65536) ∧ Runs G mm_X6_append [vR (h v0 3), vI v1] h (fun r h' => AW G mm_X9_write (0, 0) 41 [(0, vR v0)] (r.toList ++ []) h' Q)) ∧ ((¬ ((h (h v0 3) 2) < 200)) → Q (some (vI (-1004))) h)) ∧ ((v1 < 0 ∨ 255 < v1) → Q (some (vI (-1002))) h)) : Runs G mm_X9_write [vR v0, vI v1] h Q := Runs.of (by decide +kernel) (Nat.le_of_ble_eq_true rfl) (sg_X9_write_0 (b := (0, 0)) k)
set_option maxRecDepth 20000 in
theorem sg_X9_write_41 {G : GG} {b : Nat × Nat} {Q : Option VV → Hp → Prop} {v0 : Int} {h : Hp} (k : (h v0 (-1) = 10) ∧ (h (h v0 3) (-1) = 7) ∧ Q (some (vI (h (h v0 3) 2))) h) : AW G mm_X9_write b 41 [(0, vR v0)] [] h Q := by
  refine aw_aload_n 0 dX9_write_41 rfl rfl ?_
  obtain ⟨o1, k⟩ := k
  refine aw_getR dX9_write_42 fl_X9_31 rfl o1 (x := (h v0 3)) rfl ?_
  obtain ⟨o2, k⟩ := k
  refine aw_getI dX9_write_45 fl_X9_51 rfl o2 (x := (h (h v0 3) 2)) rfl ?_
  exact aw_iret dX9_write_48 rfl k
