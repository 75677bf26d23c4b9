/-! printed by writeseg.py: segments of methods -/
set_option maxRecDepth 20000 in
theorem sg_X9_add_0 {G : GG} {b : Nat × Nat} {Q : Option VV → Hp → Prop} {v0 v1 v2 v3 : Int} {h : Hp} (k : ((v1 < 0 ∨ 3 < v1) → Q (some (vI (-1001))) h) ∧ ((¬ (v1 < 0 ∨ 3 < v1)) → ((¬ (v3 < 0 ∨ 11 < v3)) → ((¬ (v2 < 0 ∨ 9999 < v2)) → (h v0 (-1) = 10) ∧ (h (h v0 1) (-1) = 31) ∧ (0 ≤ v1) ∧ (v1 < h (h v0 1) (-2)) ∧ (h (h (h v0 1) v1) (-1) = 2) ∧ Runs G mm_X1_postWork [vR (h (h v0 1) v1), vI 3, vI v2, vI 0, vI v3] h (fun r h' => AW G mm_X9_add b 44 [] (r.toList ++ []) h' Q)) ∧ ((v2 < 0 ∨ 9999 < v2) → Q (some (vI (-1002))) h)) ∧ ((v3 < 0 ∨ 11 < v3) → Q (some (vI (-1001))) h))) : AW G mm_X9_add b 0 [(0, vR v0), (1, vI v1), (2, vI v2), (3, vI v3)] [] h Q := by
  refine aw_iload_n 1 dX9_add_0 rfl rfl ?_
  refine aw_callS (M' := mm_X9_isNoEnd) [vI v1] [] lk_X9_170 dX9_add_1 rfl (Nat.le_of_ble_eq_true rfl) ⟨by decide, by decide, Nat.zero_le _, Nat.zero_le _⟩ ?_
  refine pu_X9_isNoEnd ?_
  refine aw_if_ne (tgt := 14) dX9_add_4 (by decide) (fun hc => ?_) (fun hc => ?_)
  · have k := k.1 (b2i_n.mp hc)
    refine aw_sipush dX9_add_14 ⟨by decide, by decide⟩ (by decide) ?_
    exact aw_iret dX9_add_17 rfl k
  · have k := k.2 (b2i_0.mp hc)
    refine aw_iload_n 3 dX9_add_7 rfl rfl ?_
    refine aw_callS (M' := mm_X9_isNoCell) [vI v3] [] lk_X9_119 dX9_add_8 rfl (Nat.le_of_ble_eq_true rfl) ⟨by decide, by decide, Nat.zero_le _, Nat.zero_le _⟩ ?_
    refine pu_X9_isNoCell ?_
    refine aw_if_eq (tgt := 18) dX9_add_11 (by decide) (fun hc => ?_) (fun hc => ?_)
    · have k := k.1 (b2i_0.mp hc)
      refine aw_iload_n 2 dX9_add_18 rfl rfl ?_
      refine aw_callS (M' := mm_X9_isNoValue) [vI v2] [] lk_X9_122 dX9_add_19 rfl (Nat.le_of_ble_eq_true rfl) ⟨by decide, by decide, Nat.zero_le _, Nat.zero_le _⟩ ?_
      refine pu_X9_isNoValue ?_
      refine aw_if_eq (tgt := 31) dX9_add_22 (by decide) (fun hc => ?_) (fun hc => ?_)
      · have k := k.1 (b2i_0.mp hc)
        refine aw_aload_n 0 dX9_add_31 rfl rfl ?_
        obtain ⟨o1, k⟩ := k
        refine aw_getR dX9_add_32 fl_X9_17 rfl o1 (x := (h v0 1)) rfl ?_
        refine aw_iload_n 1 dX9_add_35 rfl rfl ?_
        obtain ⟨o2, k⟩ := k
        obtain ⟨o3, k⟩ := k
        obtain ⟨o4, k⟩ := k
        refine aw_aald 3 1 aq_1 dX9_add_36 o2 o3 o4 (x := (h (h v0 1) v1)) rfl ?_
        refine aw_iconst dX9_add_37 ⟨by decide, by decide⟩ ?_
        refine aw_iload_n 2 dX9_add_38 rfl rfl ?_
        refine aw_iconst dX9_add_39 ⟨by decide, by decide⟩ ?_
        refine aw_iload_n 3 dX9_add_40 rfl rfl ?_
        obtain ⟨o5, k⟩ := k
        refine aw_callV (M' := mm_X1_postWork) 1 [vI 3, vI v2, vI 0, vI v3] [] lk_X9_188 ⟨_, rfl, rfl⟩ dX9_add_41 rfl (Nat.le_of_ble_eq_true rfl) ⟨by decide, by decide, Nat.zero_le _, Nat.zero_le _⟩ o5 ?_
        exact k.mono (fun _ _ z => aw_sub [] rfl z)
      · have k := k.2 (b2i_n.mp hc)
        refine aw_sipush dX9_add_25 ⟨by decide, by decide⟩ (by decide) ?_
        refine aw_goto (tgt := 44) dX9_add_28 (by decide) ?_
        exact aw_iret dX9_add_44 rfl k
    · have k := k.2 (b2i_n.mp hc)
      refine aw_sipush dX9_add_14 ⟨by decide, by decide⟩ (by decide) ?_
      exact aw_iret dX9_add_17 rfl k
theorem rn_X9_add {G : GG} {Q : Option VV → Hp → Prop} {v0 v1 v2 v3 : Int} {h : Hp} (k : ((v1 < 0 ∨ 3 < v1) → Q (some (vI (-1001))) h) ∧ ((¬ (v1 < 0 ∨ 3 < v1)) → ((¬ (v3 < 0 ∨ 11 < v3)) → ((¬ (v2 < 0 ∨ 9999 < v2)) → (h v0 (-1) = 10) ∧ (h (h v0 1) (-1) = 31) ∧ (0 ≤ v1) ∧ (v1 < h (h v0 1) (-2)) ∧ (h (h (h v0 1) v1) (-1) = 2) ∧ Runs G mm_X1_postWork [vR (h (h v0 1) v1), vI 3, vI v2, vI 0, vI v3] h (fun r h' => AW G mm_X9_add (0, 0) 44 [] (r.toList ++ []) h' Q)) ∧ ((v2 < 0 ∨ 9999 < v2) → Q (some (vI (-1002))) h)) ∧ ((v3 < 0 ∨ 11 < v3) → Q (some (vI (-1001))) h))) : Runs G mm_X9_add [vR v0, vI v1, vI v2, vI v3] h Q := Runs.of (by decide +kernel) (Nat.le_of_ble_eq_true rfl) (sg_X9_add_0 (b := (0, 0)) k)
set_option maxRecDepth 20000 in
theorem sg_X9_add_44 {G : GG} {b : Nat × Nat} {Q : Option VV → Hp → Prop} {s0 : Int} {h : Hp} (k : Q (some (vI s0)) h) : AW G mm_X9_add b 44 [] [vI s0] h Q := by
  exact aw_iret dX9_add_44 rfl k
set_option maxRecDepth 20000 in
theorem sg_X9_aim_0 {G : GG} {b : Nat × Nat} {Q : Option VV → Hp → Prop} {v0 v1 v2 v3 : Int} {h : Hp} (k : ((v1 < 0 ∨ 3 < v1) → Q (some (vI (-1001))) h) ∧ ((¬ (v1 < 0 ∨ 3 < v1)) → ((¬ (v2 < 0 ∨ 3 < v2)) → ((¬ (v3 < 0 ∨ 11 < v3)) → (h v0 (-1) = 10) ∧ (h (h v0 1) (-1) = 31) ∧ (0 ≤ v1) ∧ (v1 < h (h v0 1) (-2)) ∧ (h (h (h v0 1) v1) (-1) = 2) ∧ ((¬ (h (h (h v0 1) v1) 14) = v2) → Runs G mm_X1_setAim [vR (h (h v0 1) v1), vI v2, vI v3] h (fun r h' => AW G mm_X9_aim b 76 [(4, vI 0)] (r.toList ++ []) h' Q)) ∧ (((h (h (h v0 1) v1) 14) = v2) → ((¬ (h (h (h v0 1) v1) 15) = v3) → Runs G mm_X1_setAim [vR (h (h v0 1) v1), vI v2, vI v3] h (fun r h' => AW G mm_X9_aim b 76 [(4, vI 0)] (r.toList ++ []) h' Q)) ∧ (((h (h (h v0 1) v1) 15) = v3) → Runs G mm_X1_setAim [vR (h (h v0 1) v1), vI v2, vI v3] h (fun r h' => AW G mm_X9_aim b 76 [(4, vI 1)] (r.toList ++ []) h' Q)))) ∧ ((v3 < 0 ∨ 11 < v3) → Q (some (vI (-1002))) h)) ∧ ((v2 < 0 ∨ 3 < v2) → Q (some (vI (-1001))) h))) : AW G mm_X9_aim b 0 [(0, vR v0), (1, vI v1), (2, vI v2), (3, vI v3)] [] h Q := by
  refine aw_iload_n 1 dX9_aim_0 rfl rfl ?_
  refine aw_callS (M' := mm_X9_isNoEnd) [vI v1] [] lk_X9_170 dX9_aim_1 rfl (Nat.le_of_ble_eq_true rfl) ⟨by decide, by decide, Nat.zero_le _, Nat.zero_le _⟩ ?_
  refine pu_X9_isNoEnd ?_
  refine aw_if_ne (tgt := 14) dX9_aim_4 (by decide) (fun hc => ?_) (fun hc => ?_)
  · have k := k.1 (b2i_n.mp hc)
    refine aw_sipush dX9_aim_14 ⟨by decide, by decide⟩ (by decide) ?_
    exact aw_iret dX9_aim_17 rfl k
  · have k := k.2 (b2i_0.mp hc)
    refine aw_iload_n 2 dX9_aim_7 rfl rfl ?_
    refine aw_callS (M' := mm_X9_isNoKey) [vI v2] [] lk_X9_125 dX9_aim_8 rfl (Nat.le_of_ble_eq_true rfl) ⟨by decide, by decide, Nat.zero_le _, Nat.zero_le _⟩ ?_
    refine pu_X9_isNoKey ?_
    refine aw_if_eq (tgt := 18) dX9_aim_11 (by decide) (fun hc => ?_) (fun hc => ?_)
    · have k := k.1 (b2i_0.mp hc)
      refine aw_iload_n 3 dX9_aim_18 rfl rfl ?_
      refine aw_iconst dX9_aim_19 ⟨by decide, by decide⟩ ?_
      refine aw_bipush dX9_aim_20 ⟨by decide, by decide⟩ (by decide) ?_
      refine aw_callS (M' := mm_X9_isOutside) [vI v3, vI 0, vI 11] [] lk_X9_47 dX9_aim_22 rfl (Nat.le_of_ble_eq_true rfl) ⟨by decide, by decide, Nat.zero_le _, Nat.zero_le _⟩ ?_
      refine pu_X9_isOutside ?_
      refine aw_if_eq (tgt := 32) dX9_aim_25 (by decide) (fun hc => ?_) (fun hc => ?_)
      · have k := k.1 (b2i_0.mp hc)
        refine aw_aload_n 0 dX9_aim_32 rfl rfl ?_
        obtain ⟨o1, k⟩ := k
        refine aw_getR dX9_aim_33 fl_X9_17 rfl o1 (x := (h v0 1)) rfl ?_
        refine aw_iload_n 1 dX9_aim_36 rfl rfl ?_
        obtain ⟨o2, k⟩ := k
        obtain ⟨o3, k⟩ := k
        obtain ⟨o4, k⟩ := k
        refine aw_aald 3 1 aq_1 dX9_aim_37 o2 o3 o4 (x := (h (h v0 1) v1)) rfl ?_
        obtain ⟨o5, k⟩ := k
        refine aw_getI dX9_aim_38 fl_X9_182 rfl o5 (x := (h (h (h v0 1) v1) 14)) rfl ?_
        refine aw_iload_n 2 dX9_aim_41 rfl rfl ?_
        refine aw_icmp_ne (tgt := 62) dX9_aim_42 (by decide) (fun hc => ?_) (fun hc => ?_)
        · have k := k.1 hc
          refine aw_iconst dX9_aim_62 ⟨by decide, by decide⟩ ?_
          refine aw_istore dX9_aim_63 (by decide) ?_
          refine aw_aload_n 1 dX9_aim_65 rfl rfl ?_
          refine aw_getR dX9_aim_66 fl_X9_17 rfl o1 (x := (h v0 1)) rfl ?_
          refine aw_iload_n 2 dX9_aim_69 rfl rfl ?_
          refine aw_aald 3 1 aq_1 dX9_aim_70 o2 o3 o4 (x := (h (h v0 1) v1)) rfl ?_
          refine aw_iload_n 3 dX9_aim_71 rfl rfl ?_
          refine aw_iload_n 4 dX9_aim_72 rfl rfl ?_
          refine aw_callV (M' := mm_X1_setAim) 1 [vI v2, vI v3] [] lk_X9_99 ⟨_, rfl, rfl⟩ dX9_aim_73 rfl (Nat.le_of_ble_eq_true rfl) ⟨by decide, by decide, Nat.zero_le _, Nat.zero_le _⟩ o5 ?_
          exact k.mono (fun _ _ z => aw_sub [0] rfl z)
        · have k := k.2 hc
          refine aw_aload_n 0 dX9_aim_45 rfl rfl ?_
          refine aw_getR dX9_aim_46 fl_X9_17 rfl o1 (x := (h v0 1)) rfl ?_
          refine aw_iload_n 1 dX9_aim_49 rfl rfl ?_
          refine aw_aald 3 1 aq_1 dX9_aim_50 o2 o3 o4 (x := (h (h v0 1) v1)) rfl ?_
          refine aw_getI dX9_aim_51 fl_X9_185 rfl o5 (x := (h (h (h v0 1) v1) 15)) rfl ?_
          refine aw_iload_n 3 dX9_aim_54 rfl rfl ?_
          refine aw_icmp_ne (tgt := 62) dX9_aim_55 (by decide) (fun hc => ?_) (fun hc => ?_)
          · have k := k.1 hc
            refine aw_iconst dX9_aim_62 ⟨by decide, by decide⟩ ?_
            refine aw_istore dX9_aim_63 (by decide) ?_
            refine aw_aload_n 1 dX9_aim_65 rfl rfl ?_
            refine aw_getR dX9_aim_66 fl_X9_17 rfl o1 (x := (h v0 1)) rfl ?_
            refine aw_iload_n 2 dX9_aim_69 rfl rfl ?_
            refine aw_aald 3 1 aq_1 dX9_aim_70 o2 o3 o4 (x := (h (h v0 1) v1)) rfl ?_
            refine aw_iload_n 3 dX9_aim_71 rfl rfl ?_
            refine aw_iload_n 4 dX9_aim_72 rfl rfl ?_
            refine aw_callV (M' := mm_X1_setAim) 1 [vI v2, vI v3] [] lk_X9_99 ⟨_, rfl, rfl⟩ dX9_aim_73 rfl (Nat.le_of_ble_eq_true rfl) ⟨by decide, by decide, Nat.zero_le _, Nat.zero_le _⟩ o5 ?_
            exact k.mono (fun _ _ z => aw_sub [0] rfl z)
          · have k := k.2 hc
            refine aw_iconst dX9_aim_58 ⟨by decide, by decide⟩ ?_
            refine aw_goto (tgt := 63) dX9_aim_59 (by decide) ?_
            refine aw_istore dX9_aim_63 (by decide) ?_
            refine aw_aload_n 1 dX9_aim_65 rfl rfl ?_
            refine aw_getR dX9_aim_66 fl_X9_17 rfl o1 (x := (h v0 1)) rfl ?_
            refine aw_iload_n 2 dX9_aim_69 rfl rfl ?_
            refine aw_aald 3 1 aq_1 dX9_aim_70 o2 o3 o4 (x := (h (h v0 1) v1)) rfl ?_
            refine aw_iload_n 3 dX9_aim_71 rfl rfl ?_
            refine aw_iload_n 4 dX9_aim_72 rfl rfl ?_
            refine aw_callV (M' := mm_X1_setAim) 1 [vI v2, vI v3] [] lk_X9_99 ⟨_, rfl, rfl⟩ dX9_aim_73 rfl (Nat.le_of_ble_eq_true rfl) ⟨by decide, by decide, Nat.zero_le _, Nat.zero_le _⟩ o5 ?_
            exact k.mono (fun _ _ z => aw_sub [0] rfl z)
      · have k := k.2 (b2i_n.mp hc)
        refine aw_sipush dX9_aim_28 ⟨by decide, by decide⟩ (by decide) ?_
        exact aw_iret dX9_aim_31 rfl k
    · have k := k.2 (b2i_n.mp hc)
      refine aw_sipush dX9_aim_14 ⟨by decide, by decide⟩ (by decide) ?_
      exact aw_iret dX9_aim_17 rfl k
theorem rn_X9_aim {G : GG} {Q : Option VV → Hp → Prop} {v0 v1 v2 v3 : Int} {h : Hp} (k : ((v1 < 0 ∨ 3 < v1) → Q (some (vI (-1001))) h) ∧ ((¬ (v1 < 0 ∨ 3 < v1)) → ((¬ (v2 < 0 ∨ 3 < v2)) → ((¬ (v3 < 0 ∨ 11 < v3)) → (h v0 (-1) = 10) ∧ (h (h v0 1) (-1) = 31) ∧ (0 ≤ v1) ∧ (v1 < h (h v0 1) (-2)) ∧ (h (h (h v0 1) v1) (-1) = 2) ∧ ((¬ (h (h (h v0 1) v1) 14) = v2) → Runs G mm_X1_setAim [vR (h (h v0 1) v1), vI v2, vI v3] h (fun r h' => AW G mm_X9_aim (0, 0) 76 [(4, vI 0)] (r.toList ++ []) h' Q)) ∧ (((h (h (h v0 1) v1) 14) = v2) → ((¬ (h (h (h v0 1) v1) 15) = v3) → Runs G mm_X1_setAim [vR (h (h v0 1) v1), vI v2, vI v3] h (fun r h' => AW G mm_X9_aim (0, 0) 76 [(4, vI 0)] (r.toList ++ []) h' Q)) ∧ (((h (h (h v0 1) v1) 15) = v3) → Runs G mm_X1_setAim [vR (h (h v0 1) v1), vI v2, vI v3] h (fun r h' => AW G mm_X9_aim (0, 0) 76 [(4, vI 1)] (r.toList ++ []) h' Q)))) ∧ ((v3 < 0 ∨ 11 < v3) → Q (some (vI (-1002))) h)) ∧ ((v2 < 0 ∨ 3 < v2) → Q (some (vI (-1001))) h))) : Runs G mm_X9_aim [vR v0, vI v1, vI v2, vI v3] h Q := Runs.of (by decide +kernel) (Nat.le_of_ble_eq_true rfl) (sg_X9_aim_0 (b := (0, 0)) k)
set_option maxRecDepth 20000 in
theorem sg_X9_aim_76 {G : GG} {b : Nat × Nat} {Q : Option VV → Hp → Prop} {v4 : Int} {h : Hp} (k : ((v4 = 0) → Q (some (vI 1)) h) ∧ ((¬ (v4 = 0)) → Q (some (vI 0)) h)) : AW G mm_X9_aim b 76 [(4, vI v4)] [] h Q := by
  refine aw_iload 0 dX9_aim_76 rfl ?_
  refine aw_if_eq (tgt := 85) dX9_aim_78 (by decide) (fun hc => ?_) (fun hc => ?_)
  · have k := k.1 hc
    refine aw_iconst dX9_aim_85 ⟨by decide, by decide⟩ ?_
    exact aw_iret dX9_aim_86 rfl k
  · have k := k.2 hc
    refine aw_iconst dX9_aim_81 ⟨by decide, by decide⟩ ?_
    refine aw_goto (tgt := 86) dX9_aim_82 (by decide) ?_
    exact aw_iret dX9_aim_86 rfl k
set_option maxRecDepth 20000 in
theorem sg_X9_cell_0 {G : GG} {b : Nat × Nat} {Q : Option VV → Hp → Prop} {v0 v1 v2 : Int} {h : Hp} (k : ((v1 < 0 ∨ 1 < v1) → Q (some (vI (-1001))) h) ∧ ((¬ (v1 < 0 ∨ 1 < v1)) → ((¬ (v2 < 0 ∨ 11 < v2)) → (h v0 (-1) = 10) ∧ (h (h v0 0) (-1) = 32) ∧ (0 ≤ v1) ∧ (v1 < h (h v0 0) (-2)) ∧ (h (h (h v0 0) v1) (-1) = 3) ∧ (h (h (h (h v0 0) v1) 0) (-1) = 20) ∧ (0 ≤ v2) ∧ (v2 < h (h (h (h v0 0) v1) 0) (-2)) ∧ Q (some (vI (h (h (h (h v0 0) v1) 0) v2))) h) ∧ ((v2 < 0 ∨ 11 < v2) → Q (some (vI (-1001))) h))) : AW G mm_X9_cell b 0 [(0, vR v0), (1, vI v1), (2, vI v2)] [] h Q := by
  refine aw_iload_n 1 dX9_cell_0 rfl rfl ?_
  refine aw_callS (M' := mm_X9_isNoHost) [vI v1] [] lk_X9_116 dX9_cell_1 rfl (Nat.le_of_ble_eq_true rfl) ⟨by decide, by decide, Nat.zero_le _, Nat.zero_le _⟩ ?_
  refine pu_X9_isNoHost ?_
  refine aw_if_ne (tgt := 14) dX9_cell_4 (by decide) (fun hc => ?_) (fun hc => ?_)
  · have k := k.1 (b2i_n.mp hc)
    refine aw_sipush dX9_cell_14 ⟨by decide, by decide⟩ (by decide) ?_
    exact aw_iret dX9_cell_17 rfl k
  · have k := k.2 (b2i_0.mp hc)
    refine aw_iload_n 2 dX9_cell_7 rfl rfl ?_
    refine aw_callS (M' := mm_X9_isNoCell) [vI v2] [] lk_X9_119 dX9_cell_8 rfl (Nat.le_of_ble_eq_true rfl) ⟨by decide, by decide, Nat.zero_le _, Nat.zero_le _⟩ ?_
    refine pu_X9_isNoCell ?_
    refine aw_if_eq (tgt := 18) dX9_cell_11 (by decide) (fun hc => ?_) (fun hc => ?_)
    · have k := k.1 (b2i_0.mp hc)
      refine aw_aload_n 0 dX9_cell_18 rfl rfl ?_
      obtain ⟨o1, k⟩ := k
      refine aw_getR dX9_cell_19 fl_X9_11 rfl o1 (x := (h v0 0)) rfl ?_
      refine aw_iload_n 1 dX9_cell_22 rfl rfl ?_
      obtain ⟨o2, k⟩ := k
      obtain ⟨o3, k⟩ := k
      obtain ⟨o4, k⟩ := k
      refine aw_aald 4 2 aq_2 dX9_cell_23 o2 o3 o4 (x := (h (h v0 0) v1)) rfl ?_
      obtain ⟨o5, k⟩ := k
      refine aw_getR dX9_cell_24 fl_X9_93 rfl o5 (x := (h (h (h v0 0) v1) 0)) rfl ?_
      refine aw_iload_n 2 dX9_cell_27 rfl rfl ?_
      obtain ⟨o6, k⟩ := k
      obtain ⟨o7, k⟩ := k
      obtain ⟨o8, k⟩ := k
      refine aw_iald dX9_cell_28 o6 o7 o8 (x := (h (h (h (h v0 0) v1) 0) v2)) rfl ?_
      exact aw_iret dX9_cell_29 rfl k
    · have k := k.2 (b2i_n.mp hc)
      refine aw_sipush dX9_cell_14 ⟨by decide, by decide⟩ (by decide) ?_
      exact aw_iret dX9_cell_17 rfl k
theorem rn_X9_cell {G : GG} {Q : Option VV → Hp → Prop} {v0 v1 v2 : Int} {h : Hp} (k : ((v1 < 0 ∨ 1 < v1) → Q (some (vI (-1001))) h) ∧ ((¬ (v1 < 0 ∨ 1 < v1)) → ((¬ (v2 < 0 ∨ 11 < v2)) → (h v0 (-1) = 10) ∧ (h (h v0 0) (-1) = 32) ∧ (0 ≤ v1) ∧ (v1 < h (h v0 0) (-2)) ∧ (h (h (h v0 0) v1) (-1) = 3) ∧ (h (h (h (h v0 0) v1) 0) (-1) = 20) ∧ (0 ≤ v2) ∧ (v2 < h (h (h (h v0 0) v1) 0) (-2)) ∧ Q (some (vI (h (h (h (h v0 0) v1) 0) v2))) h) ∧ ((v2 < 0 ∨ 11 < v2) → Q (some (vI (-1001))) h))) : Runs G mm_X9_cell [vR v0, vI v1, vI v2] h Q := Runs.of (by decide +kernel) (Nat.le_of_ble_eq_true rfl) (sg_X9_cell_0 (b := (0, 0)) k)
set_option maxRecDepth 20000 in
theorem sg_X9_count_0 {G : GG} {b : Nat × Nat} {Q : Option VV → Hp → Prop} {v0 v1 : Int} {h : Hp} (k : ((v1 = 0) → (h v0 (-1) = 10) ∧ (h (h v0 2) (-1) = 8) ∧ Q (some (vI (h (h v0 2) 3))) h) ∧ ((v1 = 1) → (h v0 (-1) = 10) ∧ (h (h v0 2) (-1) = 8) ∧ Q (some (vI (h (h v0 2) 5))) h) ∧ ((v1 = 2) → (h v0 (-1) = 10) ∧ (h (h v0 0) (-1) = 32) ∧ (0 < h (h v0 0) (-2)) ∧ (h (h (h v0 0) 0) (-1) = 3) ∧ Q (some (vI (h (h (h v0 0) 0) 4))) h) ∧ ((v1 = 3) → (h v0 (-1) = 10) ∧ (h (h v0 0) (-1) = 32) ∧ (1 < h (h v0 0) (-2)) ∧ (h (h (h v0 0) 1) (-1) = 3) ∧ Q (some (vI (h (h (h v0 0) 1) 4))) h) ∧ ((v1 = 4) → (h v0 (-1) = 10) ∧ Runs G mm_X9_readyEnds [vR v0] h (fun r h' => AW G mm_X9_count b 92 [] (r.toList ++ []) h' Q)) ∧ ((v1 = 5) → (h v0 (-1) = 10) ∧ (h (h v0 0) (-1) = 32) ∧ (0 < h (h v0 0) (-2)) ∧ (h (h (h v0 0) 0) (-1) = 3) ∧ Runs G mm_X2_cellSum [vR (h (h v0 0) 0)] h (fun r h' => AW G mm_X9_count b 102 [(0, vR v0)] (r.toList ++ []) h' Q)) ∧ ((v1 = 6) → (h v0 (-1) = 10) ∧ (h (h v0 0) (-1) = 32) ∧ (0 < h (h v0 0) (-2)) ∧ (h (h (h v0 0) 0) (-1) = 3) ∧ (1 < h (h v0 0) (-2)) ∧ (h (h (h v0 0) 1) (-1) = 3) ∧ (inI ((h (h (h v0 0) 0) 5) + (h (h (h v0 0) 1) 5))) ∧ Q (some (vI ((h (h (h v0 0) 0) 5) + (h (h (h v0 0) 1) 5)))) h) ∧ ((v1 = 7) → (h v0 (-1) = 10) ∧ (h (h v0 3) (-1) = 7) ∧ Q (some (vI (h (h v0 3) 2))) h) ∧ ((v1 = 8) → (h v0 (-1) = 10) ∧ (h (h v0 2) (-1) = 8) ∧ Q (some (vI (h (h v0 2) 4))) h) ∧ ((v1 < 0 ∨ 8 < v1) → Q (some (vI (-1002))) h)) : AW G mm_X9_count b 0 [(0, vR v0), (1, vI v1)] [] h Q := by
  refine aw_iload_n 1 dX9_count_0 rfl rfl ?_
  rcases (show v1 = 0 ∨ v1 = 1 ∨ v1 = 2 ∨ v1 = 3 ∨ v1 = 4 ∨ v1 = 5 ∨ v1 = 6 ∨ v1 = 7 ∨ v1 = 8 ∨ (v1 < 0 ∨ 8 < v1) by omega) with hc | hc | hc | hc | hc | hc | hc | hc | hc | hc
  · have k := k.1 hc
    refine aw_tableIn (x := v1) (tgt := 52) dX9_count_1 (by omega) (by omega) (by rw [hc]; rfl) (by decide) ?_
    refine aw_aload_n 0 dX9_count_52 rfl rfl ?_
    obtain ⟨o1, k⟩ := k
    refine aw_getR dX9_count_53 fl_X9_24 rfl o1 (x := (h v0 2)) rfl ?_
    obtain ⟨o2, k⟩ := k
    refine aw_getI dX9_count_56 fl_X9_297 rfl o2 (x := (h (h v0 2) 3)) rfl ?_
    exact aw_iret dX9_count_59 rfl k
  · have k := k.2.1 hc
    refine aw_tableIn (x := v1) (tgt := 60) dX9_count_1 (by omega) (by omega) (by rw [hc]; rfl) (by decide) ?_
    refine aw_aload_n 0 dX9_count_60 rfl rfl ?_
    obtain ⟨o3, k⟩ := k
    refine aw_getR dX9_count_61 fl_X9_24 rfl o3 (x := (h v0 2)) rfl ?_
    obtain ⟨o4, k⟩ := k
    refine aw_getI dX9_count_64 fl_X9_300 rfl o4 (x := (h (h v0 2) 5)) rfl ?_
    exact aw_iret dX9_count_67 rfl k
  · have k := k.2.2.1 hc
    refine aw_tableIn (x := v1) (tgt := 68) dX9_count_1 (by omega) (by omega) (by rw [hc]; rfl) (by decide) ?_
    refine aw_aload_n 0 dX9_count_68 rfl rfl ?_
    obtain ⟨o5, k⟩ := k
    refine aw_getR dX9_count_69 fl_X9_11 rfl o5 (x := (h v0 0)) rfl ?_
    refine aw_iconst dX9_count_72 ⟨by decide, by decide⟩ ?_
    obtain ⟨o6, k⟩ := k
    obtain ⟨o7, k⟩ := k
    refine aw_aald 4 2 aq_2 dX9_count_73 o6 (by decide) o7 (x := (h (h v0 0) 0)) rfl ?_
    obtain ⟨o8, k⟩ := k
    refine aw_getI dX9_count_74 fl_X9_303 rfl o8 (x := (h (h (h v0 0) 0) 4)) rfl ?_
    exact aw_iret dX9_count_77 rfl k
  · have k := k.2.2.2.1 hc
    refine aw_tableIn (x := v1) (tgt := 78) dX9_count_1 (by omega) (by omega) (by rw [hc]; rfl) (by decide) ?_
    refine aw_aload_n 0 dX9_count_78 rfl rfl ?_
    obtain ⟨o9, k⟩ := k
    refine aw_getR dX9_count_79 fl_X9_11 rfl o9 (x := (h v0 0)) rfl ?_
    refine aw_iconst dX9_count_82 ⟨by decide, by decide⟩ ?_
    obtain ⟨o10, k⟩ := k
    obtain ⟨o11, k⟩ := k
    refine aw_aald 4 2 aq_2 dX9_count_83 o10 (by decide) o11 (x := (h (h v0 0) 1)) rfl ?_
    obtain ⟨o12, k⟩ := k
    refine aw_getI dX9_count_84 fl_X9_303 rfl o12 (x := (h (h (h v0 0) 1) 4)) rfl ?_
    exact aw_iret dX9_count_87 rfl k
  · have k := k.2.2.2.2.1 hc
    refine aw_tableIn (x := v1) (tgt := 88) dX9_count_1 (by omega) (by omega) (by rw [hc]; rfl) (by decide) ?_
    refine aw_aload_n 0 dX9_count_88 rfl rfl ?_
    obtain ⟨o13, k⟩ := k
    refine aw_callV (M' := mm_X9_readyEnds) 9 [] [] lk_X9_151 ⟨_, rfl, rfl⟩ dX9_count_89 rfl (Nat.le_of_ble_eq_true rfl) ⟨by decide, by decide, Nat.zero_le _, Nat.zero_le _⟩ o13 ?_
    exact k.mono (fun _ _ z => aw_sub [] rfl z)
  · have k := k.2.2.2.2.2.1 hc
    refine aw_tableIn (x := v1) (tgt := 93) dX9_count_1 (by omega) (by omega) (by rw [hc]; rfl) (by decide) ?_
    refine aw_aload_n 0 dX9_count_93 rfl rfl ?_
    obtain ⟨o14, k⟩ := k
    refine aw_getR dX9_count_94 fl_X9_11 rfl o14 (x := (h v0 0)) rfl ?_
    refine aw_iconst dX9_count_97 ⟨by decide, by decide⟩ ?_
    obtain ⟨o15, k⟩ := k
    obtain ⟨o16, k⟩ := k
    refine aw_aald 4 2 aq_2 dX9_count_98 o15 (by decide) o16 (x := (h (h v0 0) 0)) rfl ?_
    obtain ⟨o17, k⟩ := k
    refine aw_callV (M' := mm_X2_cellSum) 2 [] [] lk_X9_306 ⟨_, rfl, rfl⟩ dX9_count_99 rfl (Nat.le_of_ble_eq_true rfl) ⟨by decide, by decide, Nat.zero_le _, Nat.zero_le _⟩ o17 ?_
    exact k.mono (fun _ _ z => aw_sub [0] rfl z)
  · have k := k.2.2.2.2.2.2.1 hc
    refine aw_tableIn (x := v1) (tgt := 113) dX9_count_1 (by omega) (by omega) (by rw [hc]; rfl) (by decide) ?_
    refine aw_aload_n 0 dX9_count_113 rfl rfl ?_
    obtain ⟨o18, k⟩ := k
    refine aw_getR dX9_count_114 fl_X9_11 rfl o18 (x := (h v0 0)) rfl ?_
    refine aw_iconst dX9_count_117 ⟨by decide, by decide⟩ ?_
    obtain ⟨o19, k⟩ := k
    obtain ⟨o20, k⟩ := k
    refine aw_aald 4 2 aq_2 dX9_count_118 o19 (by decide) o20 (x := (h (h v0 0) 0)) rfl ?_
    obtain ⟨o21, k⟩ := k
    refine aw_getI dX9_count_119 fl_X9_309 rfl o21 (x := (h (h (h v0 0) 0) 5)) rfl ?_
    refine aw_aload_n 0 dX9_count_122 rfl rfl ?_
    refine aw_getR dX9_count_123 fl_X9_11 rfl o18 (x := (h v0 0)) rfl ?_
    refine aw_iconst dX9_count_126 ⟨by decide, by decide⟩ ?_
    obtain ⟨o22, k⟩ := k
    refine aw_aald 4 2 aq_2 dX9_count_127 o19 (by decide) o22 (x := (h (h v0 0) 1)) rfl ?_
    obtain ⟨o23, k⟩ := k
    refine aw_getI dX9_count_128 fl_X9_309 rfl o23 (x := (h (h (h v0 0) 1) 5)) rfl ?_
    obtain ⟨o24, k⟩ := k
    refine aw_iadd dX9_count_131 o24 ?_
    exact aw_iret dX9_count_132 rfl k
  · have k := k.2.2.2.2.2.2.2.1 hc
    refine aw_tableIn (x := v1) (tgt := 133) dX9_count_1 (by omega) (by omega) (by rw [hc]; rfl) (by decide) ?_
    refine aw_aload_n 0 dX9_count_133 rfl rfl ?_
    obtain ⟨o25, k⟩ := k
    refine aw_getR dX9_count_134 fl_X9_31 rfl o25 (x := (h v0 3)) rfl ?_
    obtain ⟨o26, k⟩ := k
    refine aw_getI dX9_count_137 fl_X9_51 rfl o26 (x := (h (h v0 3) 2)) rfl ?_
    exact aw_iret dX9_count_140 rfl k
  · have k := k.2.2.2.2.2.2.2.2.1 hc
    refine aw_tableIn (x := v1) (tgt := 141) dX9_count_1 (by omega) (by omega) (by rw [hc]; rfl) (by decide) ?_
    refine aw_aload_n 0 dX9_count_141 rfl rfl ?_
    obtain ⟨o27, k⟩ := k
    refine aw_getR dX9_count_142 fl_X9_24 rfl o27 (x := (h v0 2)) rfl ?_
    obtain ⟨o28, k⟩ := k
    refine aw_getI dX9_count_145 fl_X9_199 rfl o28 (x := (h (h v0 2) 4)) rfl ?_
    exact aw_iret dX9_count_148 rfl k
  · have k := k.2.2.2.2.2.2.2.2.2 hc
    refine aw_tableOut (x := v1) (tgt := 149) dX9_count_1 hc (by decide) ?_
    refine aw_sipush dX9_count_149 ⟨by decide, by decide⟩ (by decide) ?_
    exact aw_iret dX9_count_152 rfl k
theorem rn_X9_count {G : GG} {Q : Option VV → Hp → Prop} {v0 v1 : Int} {h : Hp} (k : ((v1 = 0) → (h v0 (-1) = 10) ∧ (h (h v0 2) (-1) = 8) ∧ Q (some (vI (h (h v0 2) 3))) h) ∧ ((v1 = 1) → (h v0 (-1) = 10) ∧ (h (h v0 2) (-1) = 8) ∧ Q (some (vI (h (h v0 2) 5))) h) ∧ ((v1 = 2) → (h v0 (-1) = 10) ∧ (h (h v0 0) (-1) = 32) ∧ (0 < h (h v0 0) (-2)) ∧ (h (h (h v0 0) 0) (-1) = 3) ∧ Q (some (vI (h (h (h v0 0) 0) 4))) h) ∧ ((v1 = 3) → (h v0 (-1) = 10) ∧ (h (h v0 0) (-1) = 32) ∧ (1 < h (h v0 0) (-2)) ∧ (h (h (h v0 0) 1) (-1) = 3) ∧ Q (some (vI (h (h (h v0 0) 1) 4))) h) ∧ ((v1 = 4) → (h v0 (-1) = 10) ∧ Runs G mm_X9_readyEnds [vR v0] h (fun r h' => AW G mm_X9_count (0, 0) 92 [] (r.toList ++ []) h' Q)) ∧ ((v1 = 5) → (h v0 (-1) = 10) ∧ (h (h v0 0) (-1) = 32) ∧ (0 < h (h v0 0) (-2)) ∧ (h (h (h v0 0) 0) (-1) = 3) ∧ Runs G mm_X2_cellSum [vR (h (h v0 0) 0)] h (fun r h' => AW G mm_X9_count (0, 0) 102 [(0, vR v0)] (r.toList ++ []) h' Q)) ∧ ((v1 = 6) → (h v0 (-1) = 10) ∧ (h (h v0 0) (-1) = 32) ∧ (0 < h (h v0 0) (-2)) ∧ (h (h (h v0 0) 0) (-1) = 3) ∧ (1 < h (h v0 0) (-2)) ∧ (h (h (h v0 0) 1) (-1) = 3) ∧ (inI ((h (h (h v0 0) 0) 5) + (h (h (h v0 0) 1) 5))) ∧ Q (some (vI ((h (h (h v0 0) 0) 5) + (h (h (h v0 0) 1) 5)))) h) ∧ ((v1 = 7) → (h v0 (-1) = 10) ∧ (h (h v0 3) (-1) = 7) ∧ Q (some (vI (h (h v0 3) 2))) h) ∧ ((v1 = 8) → (h v0 (-1) = 10) ∧ (h (h v0 2) (-1) = 8) ∧ Q (some (vI (h (h v0 2) 4))) h) ∧ ((v1 < 0 ∨ 8 < v1) → Q (some (vI (-1002))) h)) : Runs G mm_X9_count [vR v0, vI v1] h Q := Runs.of (by decide +kernel) (Nat.le_of_ble_eq_true rfl) (sg_X9_count_0 (b := (0, 0)) k)
set_option maxRecDepth 20000 in
theorem sg_X9_count_92 {G : GG} {b : Nat × Nat} {Q : Option VV → Hp → Prop} {s0 : Int} {h : Hp} (k : Q (some (vI s0)) h) : AW G mm_X9_count b 92 [] [vI s0] h Q := by
  exact aw_iret dX9_count_92 rfl k
set_option maxRecDepth 20000 in
theorem sg_X9_count_102 {G : GG} {b : Nat × Nat} {Q : Option VV → Hp → Prop} {v0 s0 : Int} {h : Hp} (k : (h v0 (-1) = 10) ∧ (h (h v0 0) (-1) = 32) ∧ (1 < h (h v0 0) (-2)) ∧ (h (h (h v0 0) 1) (-1) = 3) ∧ Runs G mm_X2_cellSum [vR (h (h v0 0) 1)] h (fun r h' => AW G mm_X9_count b 111 [] (r.toList ++ [vI s0]) h' Q)) : AW G mm_X9_count b 102 [(0, vR v0)] [vI s0] h Q := by
  refine aw_aload_n 0 dX9_count_102 rfl rfl ?_
  obtain ⟨o1, k⟩ := k
  refine aw_getR dX9_count_103 fl_X9_11 rfl o1 (x := (h v0 0)) rfl ?_
  refine aw_iconst dX9_count_106 ⟨by decide, by decide⟩ ?_
  obtain ⟨o2, k⟩ := k
  obtain ⟨o3, k⟩ := k
  refine aw_aald 4 2 aq_2 dX9_count_107 o2 (by decide) o3 (x := (h (h v0 0) 1)) rfl ?_
  obtain ⟨o4, k⟩ := k
  refine aw_callV (M' := mm_X2_cellSum) 2 [] [vI s0] lk_X9_306 ⟨_, rfl, rfl⟩ dX9_count_108 rfl (Nat.le_of_ble_eq_true rfl) ⟨by decide, by decide, Nat.zero_le _, Nat.zero_le _⟩ o4 ?_
  exact k.mono (fun _ _ z => aw_sub [] rfl z)
set_option maxRecDepth 20000 in
theorem sg_X9_count_111 {G : GG} {b : Nat × Nat} {Q : Option VV → Hp → Prop} {s0 s1 : Int} {h : Hp} (k : (inI (s1 + s0)) ∧ Q (some (vI (s1 + s0))) h) : AW G mm_X9_count b 111 [] [vI s0, vI s1] h Q := by
  obtain ⟨o1, k⟩ := k
  refine aw_iadd dX9_count_111 o1 ?_
  exact aw_iret dX9_count_112 rfl k
set_option maxRecDepth 20000 in
theorem sg_X9_delay_0 {G : GG} {b : Nat × Nat} {Q : Option VV → Hp → Prop} {v0 v1 v2 : Int} {h : Hp} (k : ((¬ (v1 < 0 ∨ 1 < v1)) → ((¬ (v2 < 1 ∨ 9 < v2)) → (h v0 (-1) = 10) ∧ (h (h v0 2) (-1) = 8) ∧ (h (h (h v0 2) 2) (-1) = 20) ∧ (0 ≤ v1) ∧ (v1 < h (h (h v0 2) 2) (-2)) ∧ ∀ h1, h1 = wr h (h (h v0 2) 2) v1 v2 → Q (some (vI (h (h (h v0 2) 2) v1))) h1) ∧ ((v2 < 1 ∨ 9 < v2) → Q (some (vI (-1002))) h)) ∧ ((v1 < 0 ∨ 1 < v1) → Q (some (vI (-1001))) h)) : AW G mm_X9_delay b 0 [(0, vR v0), (1, vI v1), (2, vI v2)] [] h Q := by
  refine aw_iload_n 1 dX9_delay_0 rfl rfl ?_
  refine aw_callS (M' := mm_X9_isNoLine) [vI v1] [] lk_X9_148 dX9_delay_1 rfl (Nat.le_of_ble_eq_true rfl) ⟨by decide, by decide, Nat.zero_le _, Nat.zero_le _⟩ ?_
  refine pu_X9_isNoLine ?_
  refine aw_if_eq (tgt := 11) dX9_delay_4 (by decide) (fun hc => ?_) (fun hc => ?_)
  · have k := k.1 (b2i_0.mp hc)
    refine aw_iload_n 2 dX9_delay_11 rfl rfl ?_
    refine aw_iconst dX9_delay_12 ⟨by decide, by decide⟩ ?_
    refine aw_bipush dX9_delay_13 ⟨by decide, by decide⟩ (by decide) ?_
    refine aw_callS (M' := mm_X9_isOutside) [vI v2, vI 1, vI 9] [] lk_X9_47 dX9_delay_15 rfl (Nat.le_of_ble_eq_true rfl) ⟨by decide, by decide, Nat.zero_le _, Nat.zero_le _⟩ ?_
    refine pu_X9_isOutside ?_
    refine aw_if_eq (tgt := 25) dX9_delay_18 (by decide) (fun hc => ?_) (fun hc => ?_)
    · have k := k.1 (b2i_0.mp hc)
      refine aw_aload_n 0 dX9_delay_25 rfl rfl ?_
      obtain ⟨o1, k⟩ := k
      refine aw_getR dX9_delay_26 fl_X9_24 rfl o1 (x := (h v0 2)) rfl ?_
      obtain ⟨o2, k⟩ := k
      refine aw_getR dX9_delay_29 fl_X9_96 rfl o2 (x := (h (h v0 2) 2)) rfl ?_
      refine aw_iload_n 1 dX9_delay_32 rfl rfl ?_
      obtain ⟨o3, k⟩ := k
      obtain ⟨o4, k⟩ := k
      obtain ⟨o5, k⟩ := k
      refine aw_iald dX9_delay_33 o3 o4 o5 (x := (h (h (h v0 2) 2) v1)) rfl ?_
      refine aw_istore_n dX9_delay_34 rfl (by decide) ?_
      refine aw_aload_n 1 dX9_delay_35 rfl rfl ?_
      refine aw_getR dX9_delay_36 fl_X9_24 rfl o1 (x := (h v0 2)) rfl ?_
      refine aw_getR dX9_delay_39 fl_X9_96 rfl o2 (x := (h (h v0 2) 2)) rfl ?_
      refine aw_iload_n 2 dX9_delay_42 rfl rfl ?_
      refine aw_iload_n 3 dX9_delay_43 rfl rfl ?_
      refine aw_iast dX9_delay_44 o3 o4 o5 ?_
      refine aw_hp (fun h1 e6 => ?_)
      have k := k h1 e6
      refine aw_iload_n 0 dX9_delay_45 rfl rfl ?_
      exact aw_iret dX9_delay_46 rfl k
    · have k := k.2 (b2i_n.mp hc)
      refine aw_sipush dX9_delay_21 ⟨by decide, by decide⟩ (by decide) ?_
      exact aw_iret dX9_delay_24 rfl k
  · have k := k.2 (b2i_n.mp hc)
    refine aw_sipush dX9_delay_7 ⟨by decide, by decide⟩ (by decide) ?_
    exact aw_iret dX9_delay_10 rfl k
theorem rn_X9_delay {G : GG} {Q : Option VV → Hp → Prop} {v0 v1 v2 : Int} {h : Hp} (k : ((¬ (v1 < 0 ∨ 1 < v1)) → ((¬ (v2 < 1 ∨ 9 < v2)) → (h v0 (-1) = 10) ∧ (h (h v0 2) (-1) = 8) ∧ (h (h (h v0 2) 2) (-1) = 20) ∧ (0 ≤ v1) ∧ (v1 < h (h (h v0 2) 2) (-2)) ∧ ∀ h1, h1 = wr h (h (h v0 2) 2) v1 v2 → Q (some (vI (h (h (h v0 2) 2) v1))) h1) ∧ ((v2 < 1 ∨ 9 < v2) → Q (some (vI (-1002))) h)) ∧ ((v1 < 0 ∨ 1 < v1) → Q (some (vI (-1001))) h)) : Runs G mm_X9_delay [vR v0, vI v1, vI v2] h Q := Runs.of (by decide +kernel) (Nat.le_of_ble_eq_true rfl) (sg_X9_delay_0 (b := (0, 0)) k)
set_option maxRecDepth 20000 in
theorem sg_X9_doClause_0 {G : GG} {b : Nat × Nat} {Q : Option VV → Hp → Prop} {v0 v1 v2 : Int} {h : Hp} (k : ((v1 = 0) → (h v0 (-1) = 10) ∧ Runs G mm_X9_resetAll [vR v0] h (fun r h' => AW G mm_X9_doClause b 44 [] (r.toList ++ []) h' Q)) ∧ ((v1 = 1) → (h v0 (-1) = 10) ∧ (h v2 (-1) = 20) ∧ (0 < h v2 (-2)) ∧ (h (h v0 0) (-1) = 32) ∧ (0 ≤ (h v2 0)) ∧ ((h v2 0) < h (h v0 0) (-2)) ∧ (1 < h v2 (-2)) ∧ (2 < h v2 (-2)) ∧ (3 < h v2 (-2)) ∧ (4 < h v2 (-2)) ∧ (h (h (h v0 0) (h v2 0)) (-1) = 3) ∧ Runs G mm_X2_setKey [vR (h (h v0 0) (h v2 0)), vI (h v2 1), vI (h v2 2), vI (h v2 3), vI (h v2 4)] h (fun r h' => AW G mm_X9_doClause b 70 [] (r.toList ++ []) h' Q)) ∧ ((v1 = 2) → (h v0 (-1) = 10) ∧ (h v2 (-1) = 20) ∧ (0 < h v2 (-2)) ∧ (h (h v0 0) (-1) = 32) ∧ (0 ≤ (h v2 0)) ∧ ((h v2 0) < h (h v0 0) (-2)) ∧ (h (h (h v0 0) (h v2 0)) (-1) = 3) ∧ (1 < h v2 (-2)) ∧ (2 < h v2 (-2)) ∧ (h (h (h (h v0 0) (h v2 0)) 0) (-1) = 20) ∧ (0 ≤ (h v2 1)) ∧ ((h v2 1) < h (h (h (h v0 0) (h v2 0)) 0) (-2)) ∧ ∀ h1, h1 = wr h (h (h (h v0 0) (h v2 0)) 0) (h v2 1) (h v2 2) → Q none h1) ∧ ((v1 = 3) → (h v0 (-1) = 10) ∧ (h (h v0 2) (-1) = 8) ∧ (h v2 (-1) = 20) ∧ (0 < h v2 (-2)) ∧ (1 < h v2 (-2)) ∧ (h (h (h v0 2) 2) (-1) = 20) ∧ (0 ≤ (h v2 0)) ∧ ((h v2 0) < h (h (h v0 2) 2) (-2)) ∧ ∀ h1, h1 = wr h (h (h v0 2) 2) (h v2 0) (h v2 1) → Q none h1) ∧ ((v1 = 4) → (h v0 (-1) = 10) ∧ (h v2 (-1) = 20) ∧ (0 < h v2 (-2)) ∧ (h (h v0 1) (-1) = 31) ∧ (0 ≤ (h v2 0)) ∧ ((h v2 0) < h (h v0 1) (-2)) ∧ (1 < h v2 (-2)) ∧ (2 < h v2 (-2)) ∧ (h (h (h v0 1) (h v2 0)) (-1) = 2) ∧ Runs G mm_X1_setAim [vR (h (h v0 1) (h v2 0)), vI (h v2 1), vI (h v2 2)] h (fun r h' => AW G mm_X9_doClause b 128 [] (r.toList ++ []) h' Q)) ∧ ((v1 = 5) → (h v2 (-1) = 20) ∧ (0 < h v2 (-2)) ∧ (h v0 (-1) = 10) ∧ Runs G mm_X9_hasReadyEnd [vR v0, vI (h v2 0)] h (fun r h' => AW G mm_X9_doClause b 138 [(0, vR v0), (2, vR v2)] (r.toList ++ []) h' Q)) ∧ ((v1 < 0 ∨ 5 < v1) → Q none h)) : AW G mm_X9_doClause b 0 [(0, vR v0), (1, vI v1), (2, vR v2)] [] h Q := by
  refine aw_iload_n 1 dX9_doClause_0 rfl rfl ?_
  rcases (show v1 = 0 ∨ v1 = 1 ∨ v1 = 2 ∨ v1 = 3 ∨ v1 = 4 ∨ v1 = 5 ∨ (v1 < 0 ∨ 5 < v1) by omega) with hc | hc | hc | hc | hc | hc | hc
  · have k := k.1 hc
    refine aw_tableIn (x := v1) (tgt := 40) dX9_doClause_1 (by omega) (by omega) (by rw [hc]; rfl) (by decide) ?_
    refine aw_aload_n 0 dX9_doClause_40 rfl rfl ?_
    obtain ⟨o1, k⟩ := k
    refine aw_callV (M' := mm_X9_resetAll) 9 [] [] lk_X9_86 ⟨_, rfl, rfl⟩ dX9_doClause_41 rfl (Nat.le_of_ble_eq_true rfl) ⟨by decide, by decide, Nat.zero_le _, Nat.zero_le _⟩ o1 ?_
    exact k.mono (fun _ _ z => aw_sub [] rfl z)
  · have k := k.2.1 hc
    refine aw_tableIn (x := v1) (tgt := 47) dX9_doClause_1 (by omega) (by omega) (by rw [hc]; rfl) (by decide) ?_
    refine aw_aload_n 0 dX9_doClause_47 rfl rfl ?_
    obtain ⟨o2, k⟩ := k
    refine aw_getR dX9_doClause_48 fl_X9_11 rfl o2 (x := (h v0 0)) rfl ?_
    refine aw_aload_n 2 dX9_doClause_51 rfl rfl ?_
    refine aw_iconst dX9_doClause_52 ⟨by decide, by decide⟩ ?_
    obtain ⟨o3, k⟩ := k
    obtain ⟨o4, k⟩ := k
    refine aw_iald dX9_doClause_53 o3 (by decide) o4 (x := (h v2 0)) rfl ?_
    obtain ⟨o5, k⟩ := k
    obtain ⟨o6, k⟩ := k
    obtain ⟨o7, k⟩ := k
    refine aw_aald 4 2 aq_2 dX9_doClause_54 o5 o6 o7 (x := (h (h v0 0) (h v2 0))) rfl ?_
    refine aw_aload_n 2 dX9_doClause_55 rfl rfl ?_
    refine aw_iconst dX9_doClause_56 ⟨by decide, by decide⟩ ?_
    obtain ⟨o8, k⟩ := k
    refine aw_iald dX9_doClause_57 o3 (by decide) o8 (x := (h v2 1)) rfl ?_
    refine aw_aload_n 2 dX9_doClause_58 rfl rfl ?_
    refine aw_iconst dX9_doClause_59 ⟨by decide, by decide⟩ ?_
    obtain ⟨o9, k⟩ := k
    refine aw_iald dX9_doClause_60 o3 (by decide) o9 (x := (h v2 2)) rfl ?_
    refine aw_aload_n 2 dX9_doClause_61 rfl rfl ?_
    refine aw_iconst dX9_doClause_62 ⟨by decide, by decide⟩ ?_
    obtain ⟨o10, k⟩ := k
    refine aw_iald dX9_doClause_63 o3 (by decide) o10 (x := (h v2 3)) rfl ?_
    refine aw_aload_n 2 dX9_doClause_64 rfl rfl ?_
    refine aw_iconst dX9_doClause_65 ⟨by decide, by decide⟩ ?_
    obtain ⟨o11, k⟩ := k
    refine aw_iald dX9_doClause_66 o3 (by decide) o11 (x := (h v2 4)) rfl ?_
    obtain ⟨o12, k⟩ := k
    refine aw_callV (M' := mm_X2_setKey) 2 [vI (h v2 1), vI (h v2 2), vI (h v2 3), vI (h v2 4)] [] lk_X9_89 ⟨_, rfl, rfl⟩ dX9_doClause_67 rfl (Nat.le_of_ble_eq_true rfl) ⟨by decide, by decide, Nat.zero_le _, Nat.zero_le _⟩ o12 ?_
    exact k.mono (fun _ _ z => aw_sub [] rfl z)
  · have k := k.2.2.1 hc
    refine aw_tableIn (x := v1) (tgt := 73) dX9_doClause_1 (by omega) (by omega) (by rw [hc]; rfl) (by decide) ?_
    refine aw_aload_n 0 dX9_doClause_73 rfl rfl ?_
    obtain ⟨o13, k⟩ := k
    refine aw_getR dX9_doClause_74 fl_X9_11 rfl o13 (x := (h v0 0)) rfl ?_
    refine aw_aload_n 2 dX9_doClause_77 rfl rfl ?_
    refine aw_iconst dX9_doClause_78 ⟨by decide, by decide⟩ ?_
    obtain ⟨o14, k⟩ := k
    obtain ⟨o15, k⟩ := k
    refine aw_iald dX9_doClause_79 o14 (by decide) o15 (x := (h v2 0)) rfl ?_
    obtain ⟨o16, k⟩ := k
    obtain ⟨o17, k⟩ := k
    obtain ⟨o18, k⟩ := k
    refine aw_aald 4 2 aq_2 dX9_doClause_80 o16 o17 o18 (x := (h (h v0 0) (h v2 0))) rfl ?_
    obtain ⟨o19, k⟩ := k
    refine aw_getR dX9_doClause_81 fl_X9_93 rfl o19 (x := (h (h (h v0 0) (h v2 0)) 0)) rfl ?_
    refine aw_aload_n 2 dX9_doClause_84 rfl rfl ?_
    refine aw_iconst dX9_doClause_85 ⟨by decide, by decide⟩ ?_
    obtain ⟨o20, k⟩ := k
    refine aw_iald dX9_doClause_86 o14 (by decide) o20 (x := (h v2 1)) rfl ?_
    refine aw_aload_n 2 dX9_doClause_87 rfl rfl ?_
    refine aw_iconst dX9_doClause_88 ⟨by decide, by decide⟩ ?_
    obtain ⟨o21, k⟩ := k
    refine aw_iald dX9_doClause_89 o14 (by decide) o21 (x := (h v2 2)) rfl ?_
    obtain ⟨o22, k⟩ := k
    obtain ⟨o23, k⟩ := k
    obtain ⟨o24, k⟩ := k
    refine aw_iast dX9_doClause_90 o22 o23 o24 ?_
    refine aw_hp (fun h1 e25 => ?_)
    have k := k h1 e25
    refine aw_goto (tgt := 151) dX9_doClause_91 (by decide) ?_
    exact aw_vret dX9_doClause_151 rfl k
  · have k := k.2.2.2.1 hc
    refine aw_tableIn (x := v1) (tgt := 94) dX9_doClause_1 (by omega) (by omega) (by rw [hc]; rfl) (by decide) ?_
    refine aw_aload_n 0 dX9_doClause_94 rfl rfl ?_
    obtain ⟨o26, k⟩ := k
    refine aw_getR dX9_doClause_95 fl_X9_24 rfl o26 (x := (h v0 2)) rfl ?_
    obtain ⟨o27, k⟩ := k
    refine aw_getR dX9_doClause_98 fl_X9_96 rfl o27 (x := (h (h v0 2) 2)) rfl ?_
    refine aw_aload_n 2 dX9_doClause_101 rfl rfl ?_
    refine aw_iconst dX9_doClause_102 ⟨by decide, by decide⟩ ?_
    obtain ⟨o28, k⟩ := k
    obtain ⟨o29, k⟩ := k
    refine aw_iald dX9_doClause_103 o28 (by decide) o29 (x := (h v2 0)) rfl ?_
    refine aw_aload_n 2 dX9_doClause_104 rfl rfl ?_
    refine aw_iconst dX9_doClause_105 ⟨by decide, by decide⟩ ?_
    obtain ⟨o30, k⟩ := k
    refine aw_iald dX9_doClause_106 o28 (by decide) o30 (x := (h v2 1)) rfl ?_
    obtain ⟨o31, k⟩ := k
    obtain ⟨o32, k⟩ := k
    obtain ⟨o33, k⟩ := k
    refine aw_iast dX9_doClause_107 o31 o32 o33 ?_
    refine aw_hp (fun h1 e34 => ?_)
    have k := k h1 e34
    refine aw_goto (tgt := 151) dX9_doClause_108 (by decide) ?_
    exact aw_vret dX9_doClause_151 rfl k
  · have k := k.2.2.2.2.1 hc
    refine aw_tableIn (x := v1) (tgt := 111) dX9_doClause_1 (by omega) (by omega) (by rw [hc]; rfl) (by decide) ?_
    refine aw_aload_n 0 dX9_doClause_111 rfl rfl ?_
    obtain ⟨o35, k⟩ := k
    refine aw_getR dX9_doClause_112 fl_X9_17 rfl o35 (x := (h v0 1)) rfl ?_
    refine aw_aload_n 2 dX9_doClause_115 rfl rfl ?_
    refine aw_iconst dX9_doClause_116 ⟨by decide, by decide⟩ ?_
    obtain ⟨o36, k⟩ := k
    obtain ⟨o37, k⟩ := k
    refine aw_iald dX9_doClause_117 o36 (by decide) o37 (x := (h v2 0)) rfl ?_
    obtain ⟨o38, k⟩ := k
    obtain ⟨o39, k⟩ := k
    obtain ⟨o40, k⟩ := k
    refine aw_aald 3 1 aq_1 dX9_doClause_118 o38 o39 o40 (x := (h (h v0 1) (h v2 0))) rfl ?_
    refine aw_aload_n 2 dX9_doClause_119 rfl rfl ?_
    refine aw_iconst dX9_doClause_120 ⟨by decide, by decide⟩ ?_
    obtain ⟨o41, k⟩ := k
    refine aw_iald dX9_doClause_121 o36 (by decide) o41 (x := (h v2 1)) rfl ?_
    refine aw_aload_n 2 dX9_doClause_122 rfl rfl ?_
    refine aw_iconst dX9_doClause_123 ⟨by decide, by decide⟩ ?_
    obtain ⟨o42, k⟩ := k
    refine aw_iald dX9_doClause_124 o36 (by decide) o42 (x := (h v2 2)) rfl ?_
    obtain ⟨o43, k⟩ := k
    refine aw_callV (M' := mm_X1_setAim) 1 [vI (h v2 1), vI (h v2 2)] [] lk_X9_99 ⟨_, rfl, rfl⟩ dX9_doClause_125 rfl (Nat.le_of_ble_eq_true rfl) ⟨by decide, by decide, Nat.zero_le _, Nat.zero_le _⟩ o43 ?_
    exact k.mono (fun _ _ z => aw_sub [] rfl z)
  · have k := k.2.2.2.2.2.1 hc
    refine aw_tableIn (x := v1) (tgt := 131) dX9_doClause_1 (by omega) (by omega) (by rw [hc]; rfl) (by decide) ?_
    refine aw_aload_n 0 dX9_doClause_131 rfl rfl ?_
    refine aw_aload_n 2 dX9_doClause_132 rfl rfl ?_
    refine aw_iconst dX9_doClause_133 ⟨by decide, by decide⟩ ?_
    obtain ⟨o44, k⟩ := k
    obtain ⟨o45, k⟩ := k
    refine aw_iald dX9_doClause_134 o44 (by decide) o45 (x := (h v2 0)) rfl ?_
    obtain ⟨o46, k⟩ := k
    refine aw_callV (M' := mm_X9_hasReadyEnd) 9 [vI (h v2 0)] [] lk_X9_103 ⟨_, rfl, rfl⟩ dX9_doClause_135 rfl (Nat.le_of_ble_eq_true rfl) ⟨by decide, by decide, Nat.zero_le _, Nat.zero_le _⟩ o46 ?_
    exact k.mono (fun _ _ z => aw_sub [0, 2] rfl z)
  · have k := k.2.2.2.2.2.2 hc
    refine aw_tableOut (x := v1) (tgt := 151) dX9_doClause_1 hc (by decide) ?_
    exact aw_vret dX9_doClause_151 rfl k
theorem rn_X9_doClause {G : GG} {Q : Option VV → Hp → Prop} {v0 v1 v2 : Int} {h : Hp} (k : ((v1 = 0) → (h v0 (-1) = 10) ∧ Runs G mm_X9_resetAll [vR v0] h (fun r h' => AW G mm_X9_doClause (0, 0) 44 [] (r.toList ++ []) h' Q)) ∧ ((v1 = 1) → (h v0 (-1) = 10) ∧ (h v2 (-1) = 20) ∧ (0 < h v2 (-2)) ∧ (h (h v0 0) (-1) = 32) ∧ (0 ≤ (h v2 0)) ∧ ((h v2 0) < h (h v0 0) (-2)) ∧ (1 < h v2 (-2)) ∧ (2 < h v2 (-2)) ∧ (3 < h v2 (-2)) ∧ (4 < h v2 (-2)) ∧ (h (h (h v0 0) (h v2 0)) (-1) = 3) ∧ Runs G mm_X2_setKey [vR (h (h v0 0) (h v2 0)), vI (h v2 1), vI (h v2 2), vI (h v2 3), vI (h v2 4)] h (fun r h' => AW G mm_X9_doClause (0, 0) 70 [] (r.toList ++ []) h' Q)) ∧ ((v1 = 2) → (h v0 (-1) = 10) ∧ (h v2 (-1) = 20) ∧ (0 < h v2 (-2)) ∧ (h (h v0 0) (-1) = 32) ∧ (0 ≤ (h v2 0)) ∧ ((h v2 0) < h (h v0 0) (-2)) ∧ (h (h (h v0 0) (h v2 0)) (-1) = 3) ∧ (1 < h v2 (-2)) ∧ (2 < h v2 (-2)) ∧ (h (h (h (h v0 0) (h v2 0)) 0) (-1) = 20) ∧ (0 ≤ (h v2 1)) ∧ ((h v2 1) < h (h (h (h v0 0) (h v2 0)) 0) (-2)) ∧ ∀ h1, h1 = wr h (h (h (h v0 0) (h v2 0)) 0) (h v2 1) (h v2 2) → Q none h1) ∧ ((v1 = 3) → (h v0 (-1) = 10) ∧ (h (h v0 2) (-1) = 8) ∧ (h v2 (-1) = 20) ∧ (0 < h v2 (-2)) ∧ (1 < h v2 (-2)) ∧ (h (h (h v0 2) 2) (-1) = 20) ∧ (0 ≤ (h v2 0)) ∧ ((h v2 0) < h (h (h v0 2) 2) (-2)) ∧ ∀ h1, h1 = wr h (h (h v0 2) 2) (h v2 0) (h v2 1) → Q none h1) ∧ ((v1 = 4) → (h v0 (-1) = 10) ∧ (h v2 (-1) = 20) ∧ (0 < h v2 (-2)) ∧ (h (h v0 1) (-1) = 31) ∧ (0 ≤ (h v2 0)) ∧ ((h v2 0) < h (h v0 1) (-2)) ∧ (1 < h v2 (-2)) ∧ (2 < h v2 (-2)) ∧ (h (h (h v0 1) (h v2 0)) (-1) = 2) ∧ Runs G mm_X1_setAim [vR (h (h v0 1) (h v2 0)), vI (h v2 1), vI (h v2 2)] h (fun r h' => AW G mm_X9_doClause (0, 0) 128 [] (r.toList ++ []) h' Q)) ∧ ((v1 = 5) → (h v2 (-1) = 20) ∧ (0 < h v2 (-2)) ∧ (h v0 (-1) = 10) ∧ Runs G mm_X9_hasReadyEnd [vR v0, vI (h v2 0)] h (fun r h' => AW G mm_X9_doClause (0, 0) 138 [(0, vR v0), (2, vR v2)] (r.toList ++ []) h' Q)) ∧ ((v1 < 0 ∨ 5 < v1) → Q none h)) : Runs G mm_X9_doClause [vR v0, vI v1, vR v2] h Q := Runs.of (by decide +kernel) (Nat.le_of_ble_eq_true rfl) (sg_X9_doClause_0 (b := (0, 0)) k)
set_option maxRecDepth 20000 in
theorem sg_X9_doClause_44 {G : GG} {b : Nat × Nat} {Q : Option VV → Hp → Prop} {h : Hp} (k : Q none h) : AW G mm_X9_doClause b 44 [] [] h Q := by
  refine aw_goto (tgt := 151) dX9_doClause_44 (by decide) ?_
  exact aw_vret dX9_doClause_151 rfl k
set_option maxRecDepth 20000 in
theorem sg_X9_doClause_70 {G : GG} {b : Nat × Nat} {Q : Option VV → Hp → Prop} {h : Hp} (k : Q none h) : AW G mm_X9_doClause b 70 [] [] h Q := by
  refine aw_goto (tgt := 151) dX9_doClause_70 (by decide) ?_
  exact aw_vret dX9_doClause_151 rfl k
set_option maxRecDepth 20000 in
theorem sg_X9_doClause_128 {G : GG} {b : Nat × Nat} {Q : Option VV → Hp → Prop} {h : Hp} (k : Q none h) : AW G mm_X9_doClause b 128 [] [] h Q := by
  refine aw_goto (tgt := 151) dX9_doClause_128 (by decide) ?_
  exact aw_vret dX9_doClause_151 rfl k
set_option maxRecDepth 20000 in
theorem sg_X9_doClause_138 {G : GG} {b : Nat × Nat} {Q : Option VV → Hp → Prop} {v0 v2 s0 : Int} {h : Hp} (k : ((¬ s0 = 0) → Q none h) ∧ ((s0 = 0) → (h v2 (-1) = 20) ∧ (0 < h v2 (-2)) ∧ (h v0 (-1) = 10) ∧ Runs G mm_X9_joinLine [vR v0, vI (h v2 0)] h (fun r h' => AW G mm_X9_doClause b 148 [] (r.toList ++ []) h' Q))) : AW G mm_X9_doClause b 138 [(0, vR v0), (2, vR v2)] [vI s0] h Q := by
  refine aw_if_ne (tgt := 151) dX9_doClause_138 (by decide) (fun hc => ?_) (fun hc => ?_)
  · have k := k.1 hc
    exact aw_vret dX9_doClause_151 rfl k
  · have k := k.2 hc
    refine aw_aload_n 0 dX9_doClause_141 rfl rfl ?_
    refine aw_aload_n 1 dX9_doClause_142 rfl rfl ?_
    refine aw_iconst dX9_doClause_143 ⟨by decide, by decide⟩ ?_
    obtain ⟨o1, k⟩ := k
    obtain ⟨o2, k⟩ := k
    refine aw_iald dX9_doClause_144 o1 (by decide) o2 (x := (h v2 0)) rfl ?_
    obtain ⟨o3, k⟩ := k
    refine aw_callV (M' := mm_X9_joinLine) 9 [vI (h v2 0)] [] lk_X9_107 ⟨_, rfl, rfl⟩ dX9_doClause_145 rfl (Nat.le_of_ble_eq_true rfl) ⟨by decide, by decide, Nat.zero_le _, Nat.zero_le _⟩ o3 ?_
    exact k.mono (fun _ _ z => aw_sub [] rfl z)
set_option maxRecDepth 20000 in
theorem sg_X9_doClause_148 {G : GG} {b : Nat × Nat} {Q : Option VV → Hp → Prop} {h : Hp} (k : Q none h) : AW G mm_X9_doClause b 148 [] [] h Q := by
  refine aw_goto (tgt := 151) dX9_doClause_148 (by decide) ?_
  exact aw_vret dX9_doClause_151 rfl k
set_option maxRecDepth 20000 in
theorem sg_X9_door_0 {G : GG} {b : Nat × Nat} {Q : Option VV → Hp → Prop} {v0 v1 v2 v3 : Int} {h : Hp} (k : ((v1 < 0 ∨ 1 < v1) → Q (some (vI (-1001))) h) ∧ ((¬ (v1 < 0 ∨ 1 < v1)) → ((¬ (v2 < 0 ∨ 3 < v2)) → ((¬ (v3 < 0 ∨ 2 < v3)) → (h v0 (-1) = 10) ∧ (h (h v0 0) (-1) = 32) ∧ (0 ≤ v1) ∧ (v1 < h (h v0 0) (-2)) ∧ (h (h (h v0 0) v1) (-1) = 3) ∧ (h (h (h (h v0 0) v1) 1) (-1) = 33) ∧ (0 ≤ v2) ∧ (v2 < h (h (h (h v0 0) v1) 1) (-2)) ∧ (h (h (h (h (h v0 0) v1) 1) v2) (-1) = 4) ∧ ((¬ (h (h (h (h (h v0 0) v1) 1) v2) 0) = 0) → ((v3 = 0) → Q (some (vI (h (h (h (h (h v0 0) v1) 1) v2) 1))) h) ∧ ((v3 = 1) → Q (some (vI (h (h (h (h (h v0 0) v1) 1) v2) 2))) h) ∧ ((v3 ≠ 0 ∧ v3 ≠ 1) → Q (some (vI (h (h (h (h (h v0 0) v1) 1) v2) 3))) h)) ∧ (((h (h (h (h (h v0 0) v1) 1) v2) 0) = 0) → Q (some (vI (-1003))) h)) ∧ ((v3 < 0 ∨ 2 < v3) → Q (some (vI (-1002))) h)) ∧ ((v2 < 0 ∨ 3 < v2) → Q (some (vI (-1001))) h))) : AW G mm_X9_door b 0 [(0, vR v0), (1, vI v1), (2, vI v2), (3, vI v3)] [] h Q := by
  refine aw_iload_n 1 dX9_door_0 rfl rfl ?_
  refine aw_callS (M' := mm_X9_isNoHost) [vI v1] [] lk_X9_116 dX9_door_1 rfl (Nat.le_of_ble_eq_true rfl) ⟨by decide, by decide, Nat.zero_le _, Nat.zero_le _⟩ ?_
  refine pu_X9_isNoHost ?_
  refine aw_if_ne (tgt := 14) dX9_door_4 (by decide) (fun hc => ?_) (fun hc => ?_)
  · have k := k.1 (b2i_n.mp hc)
    refine aw_sipush dX9_door_14 ⟨by decide, by decide⟩ (by decide) ?_
    exact aw_iret dX9_door_17 rfl k
  · have k := k.2 (b2i_0.mp hc)
    refine aw_iload_n 2 dX9_door_7 rfl rfl ?_
    refine aw_callS (M' := mm_X9_isNoKey) [vI v2] [] lk_X9_125 dX9_door_8 rfl (Nat.le_of_ble_eq_true rfl) ⟨by decide, by decide, Nat.zero_le _, Nat.zero_le _⟩ ?_
    refine pu_X9_isNoKey ?_
    refine aw_if_eq (tgt := 18) dX9_door_11 (by decide) (fun hc => ?_) (fun hc => ?_)
    · have k := k.1 (b2i_0.mp hc)
      refine aw_iload_n 3 dX9_door_18 rfl rfl ?_
      refine aw_iconst dX9_door_19 ⟨by decide, by decide⟩ ?_
      refine aw_iconst dX9_door_20 ⟨by decide, by decide⟩ ?_
      refine aw_callS (M' := mm_X9_isOutside) [vI v3, vI 0, vI 2] [] lk_X9_47 dX9_door_21 rfl (Nat.le_of_ble_eq_true rfl) ⟨by decide, by decide, Nat.zero_le _, Nat.zero_le _⟩ ?_
      refine pu_X9_isOutside ?_
      refine aw_if_eq (tgt := 31) dX9_door_24 (by decide) (fun hc => ?_) (fun hc => ?_)
      · have k := k.1 (b2i_0.mp hc)
        refine aw_aload_n 0 dX9_door_31 rfl rfl ?_
        obtain ⟨o1, k⟩ := k
        refine aw_getR dX9_door_32 fl_X9_11 rfl o1 (x := (h v0 0)) rfl ?_
        refine aw_iload_n 1 dX9_door_35 rfl rfl ?_
        obtain ⟨o2, k⟩ := k
        obtain ⟨o3, k⟩ := k
        obtain ⟨o4, k⟩ := k
        refine aw_aald 4 2 aq_2 dX9_door_36 o2 o3 o4 (x := (h (h v0 0) v1)) rfl ?_
        obtain ⟨o5, k⟩ := k
        refine aw_getR dX9_door_37 fl_X9_131 rfl o5 (x := (h (h (h v0 0) v1) 1)) rfl ?_
        refine aw_iload_n 2 dX9_door_40 rfl rfl ?_
        obtain ⟨o6, k⟩ := k
        obtain ⟨o7, k⟩ := k
        obtain ⟨o8, k⟩ := k
        refine aw_aald 5 3 aq_3 dX9_door_41 o6 o7 o8 (x := (h (h (h (h v0 0) v1) 1) v2)) rfl ?_
        refine aw_astore dX9_door_42 (by decide) ?_
        refine aw_aload 0 dX9_door_44 rfl ?_
        obtain ⟨o9, k⟩ := k
        refine aw_getI dX9_door_46 fl_X9_135 rfl o9 (x := (h (h (h (h (h v0 0) v1) 1) v2) 0)) rfl ?_
        refine aw_if_ne (tgt := 56) dX9_door_49 (by decide) (fun hc => ?_) (fun hc => ?_)
        · have k := k.1 hc
          refine aw_iload_n 4 dX9_door_56 rfl rfl ?_
          rcases (show v3 = 0 ∨ v3 = 1 ∨ (v3 ≠ 0 ∧ v3 ≠ 1) by omega) with hc | hc | hc
          · have k := k.1 hc
            refine aw_lookup (tgt := 84) (off := 27) dX9_door_57 (by decide) (by simp [Op.lookupswitch.offset, hc]) (by decide) ?_
            refine aw_aload 0 dX9_door_84 rfl ?_
            refine aw_getI dX9_door_86 fl_X9_141 rfl o9 (x := (h (h (h (h (h v0 0) v1) 1) v2) 1)) rfl ?_
            exact aw_iret dX9_door_89 rfl k
          · have k := k.2.1 hc
            refine aw_lookup (tgt := 90) (off := 33) dX9_door_57 (by decide) (by simp [Op.lookupswitch.offset, hc]) (by decide) ?_
            refine aw_aload 0 dX9_door_90 rfl ?_
            refine aw_getI dX9_door_92 fl_X9_144 rfl o9 (x := (h (h (h (h (h v0 0) v1) 1) v2) 2)) rfl ?_
            exact aw_iret dX9_door_95 rfl k
          · have k := k.2.2 hc
            refine aw_lookup (tgt := 96) (off := 39) dX9_door_57 (by decide) (by simp [Op.lookupswitch.offset, Ne.symm hc.1, Ne.symm hc.2]) (by decide) ?_
            refine aw_aload 0 dX9_door_96 rfl ?_
            refine aw_getI dX9_door_98 fl_X9_145 rfl o9 (x := (h (h (h (h (h v0 0) v1) 1) v2) 3)) rfl ?_
            exact aw_iret dX9_door_101 rfl k
        · have k := k.2 hc
          refine aw_sipush dX9_door_52 ⟨by decide, by decide⟩ (by decide) ?_
          exact aw_iret dX9_door_55 rfl k
      · have k := k.2 (b2i_n.mp hc)
        refine aw_sipush dX9_door_27 ⟨by decide, by decide⟩ (by decide) ?_
        exact aw_iret dX9_door_30 rfl k
    · have k := k.2 (b2i_n.mp hc)
      refine aw_sipush dX9_door_14 ⟨by decide, by decide⟩ (by decide) ?_
      exact aw_iret dX9_door_17 rfl k
theorem rn_X9_door {G : GG} {Q : Option VV → Hp → Prop} {v0 v1 v2 v3 : Int} {h : Hp} (k : ((v1 < 0 ∨ 1 < v1) → Q (some (vI (-1001))) h) ∧ ((¬ (v1 < 0 ∨ 1 < v1)) → ((¬ (v2 < 0 ∨ 3 < v2)) → ((¬ (v3 < 0 ∨ 2 < v3)) → (h v0 (-1) = 10) ∧ (h (h v0 0) (-1) = 32) ∧ (0 ≤ v1) ∧ (v1 < h (h v0 0) (-2)) ∧ (h (h (h v0 0) v1) (-1) = 3) ∧ (h (h (h (h v0 0) v1) 1) (-1) = 33) ∧ (0 ≤ v2) ∧ (v2 < h (h (h (h v0 0) v1) 1) (-2)) ∧ (h (h (h (h (h v0 0) v1) 1) v2) (-1) = 4) ∧ ((¬ (h (h (h (h (h v0 0) v1) 1) v2) 0) = 0) → ((v3 = 0) → Q (some (vI (h (h (h (h (h v0 0) v1) 1) v2) 1))) h) ∧ ((v3 = 1) → Q (some (vI (h (h (h (h (h v0 0) v1) 1) v2) 2))) h) ∧ ((v3 ≠ 0 ∧ v3 ≠ 1) → Q (some (vI (h (h (h (h (h v0 0) v1) 1) v2) 3))) h)) ∧ (((h (h (h (h (h v0 0) v1) 1) v2) 0) = 0) → Q (some (vI (-1003))) h)) ∧ ((v3 < 0 ∨ 2 < v3) → Q (some (vI (-1002))) h)) ∧ ((v2 < 0 ∨ 3 < v2) → Q (some (vI (-1001))) h))) : Runs G mm_X9_door [vR v0, vI v1, vI v2, vI v3] h Q := Runs.of (by decide +kernel) (Nat.le_of_ble_eq_true rfl) (sg_X9_door_0 (b := (0, 0)) k)
set_option maxRecDepth 20000 in
theorem sg_X9_end_0 {G : GG} {b : Nat × Nat} {Q : Option VV → Hp → Prop} {v0 v1 v2 : Int} {h : Hp} (k : ((¬ (v1 < 0 ∨ 3 < v1)) → (h v0 (-1) = 10) ∧ (h (h v0 1) (-1) = 31) ∧ (0 ≤ v1) ∧ (v1 < h (h v0 1) (-2)) ∧ ((v2 = 0) → (h (h (h v0 1) v1) (-1) = 2) ∧ Q (some (vI (h (h (h v0 1) v1) 6))) h) ∧ ((v2 = 1) → (h (h (h v0 1) v1) (-1) = 2) ∧ Q (some (vI (h (h (h v0 1) v1) 7))) h) ∧ ((v2 = 2) → (h (h (h v0 1) v1) (-1) = 2) ∧ Q (some (vI (h (h (h v0 1) v1) 8))) h) ∧ ((v2 = 3) → (h (h (h v0 1) v1) (-1) = 2) ∧ Q (some (vI (h (h (h v0 1) v1) 9))) h) ∧ ((v2 = 4) → (h (h (h v0 1) v1) (-1) = 2) ∧ Q (some (vI (h (h (h v0 1) v1) 10))) h) ∧ ((v2 = 5) → (h (h (h v0 1) v1) (-1) = 2) ∧ Q (some (vI (h (h (h v0 1) v1) 11))) h) ∧ ((v2 = 6) → (h (h (h v0 1) v1) (-1) = 2) ∧ Q (some (vI (h (h (h v0 1) v1) 12))) h) ∧ ((v2 = 7) → (h (h (h v0 1) v1) (-1) = 2) ∧ (((h (h (h v0 1) v1) 13) = 0) → Q (some (vI 0)) h) ∧ ((¬ ((h (h (h v0 1) v1) 13) = 0)) → Q (some (vI 1)) h)) ∧ ((v2 = 8) → (h (h (h v0 1) v1) (-1) = 2) ∧ (h (h (h (h v0 1) v1) 5) (-1) = 1) ∧ Q (some (vI (h (h (h (h v0 1) v1) 5) 2))) h) ∧ ((v2 = 9) → (h (h (h v0 1) v1) (-1) = 2) ∧ Q (some (vI (h (h (h v0 1) v1) 14))) h) ∧ ((v2 = 10) → (h (h (h v0 1) v1) (-1) = 2) ∧ Q (some (vI (h (h (h v0 1) v1) 15))) h) ∧ ((v2 < 0 ∨ 10 < v2) → Q (some (vI (-1002))) h)) ∧ ((v1 < 0 ∨ 3 < v1) → Q (some (vI (-1001))) h)) : AW G mm_X9_end b 0 [(0, vR v0), (1, vI v1), (2, vI v2)] [] h Q := by
  refine aw_iload_n 1 dX9_end_0 rfl rfl ?_
  refine aw_callS (M' := mm_X9_isNoEnd) [vI v1] [] lk_X9_170 dX9_end_1 rfl (Nat.le_of_ble_eq_true rfl) ⟨by decide, by decide, Nat.zero_le _, Nat.zero_le _⟩ ?_
  refine pu_X9_isNoEnd ?_
  refine aw_if_eq (tgt := 11) dX9_end_4 (by decide) (fun hc => ?_) (fun hc => ?_)
  · have k := k.1 (b2i_0.mp hc)
    refine aw_aload_n 0 dX9_end_11 rfl rfl ?_
    obtain ⟨o1, k⟩ := k
    refine aw_getR dX9_end_12 fl_X9_17 rfl o1 (x := (h v0 1)) rfl ?_
    refine aw_iload_n 1 dX9_end_15 rfl rfl ?_
    obtain ⟨o2, k⟩ := k
    obtain ⟨o3, k⟩ := k
    obtain ⟨o4, k⟩ := k
    refine aw_aald 3 1 aq_1 dX9_end_16 o2 o3 o4 (x := (h (h v0 1) v1)) rfl ?_
    refine aw_astore_n dX9_end_17 rfl (by decide) ?_
    refine aw_iload_n 3 dX9_end_18 rfl rfl ?_
    rcases (show v2 = 0 ∨ v2 = 1 ∨ v2 = 2 ∨ v2 = 3 ∨ v2 = 4 ∨ v2 = 5 ∨ v2 = 6 ∨ v2 = 7 ∨ v2 = 8 ∨ v2 = 9 ∨ v2 = 10 ∨ (v2 < 0 ∨ 10 < v2) by omega) with hc | hc | hc | hc | hc | hc | hc | hc | hc | hc | hc | hc
    · have k := k.1 hc
      refine aw_tableIn (x := v2) (tgt := 76) dX9_end_19 (by omega) (by omega) (by rw [hc]; rfl) (by decide) ?_
      refine aw_aload_n 0 dX9_end_76 rfl rfl ?_
      obtain ⟨o5, k⟩ := k
      refine aw_getI dX9_end_77 fl_X9_158 rfl o5 (x := (h (h (h v0 1) v1) 6)) rfl ?_
      exact aw_iret dX9_end_80 rfl k
    · have k := k.2.1 hc
      refine aw_tableIn (x := v2) (tgt := 81) dX9_end_19 (by omega) (by omega) (by rw [hc]; rfl) (by decide) ?_
      refine aw_aload_n 0 dX9_end_81 rfl rfl ?_
      obtain ⟨o6, k⟩ := k
      refine aw_getI dX9_end_82 fl_X9_247 rfl o6 (x := (h (h (h v0 1) v1) 7)) rfl ?_
      exact aw_iret dX9_end_85 rfl k
    · have k := k.2.2.1 hc
      refine aw_tableIn (x := v2) (tgt := 86) dX9_end_19 (by omega) (by omega) (by rw [hc]; rfl) (by decide) ?_
      refine aw_aload_n 0 dX9_end_86 rfl rfl ?_
      obtain ⟨o7, k⟩ := k
      refine aw_getI dX9_end_87 fl_X9_173 rfl o7 (x := (h (h (h v0 1) v1) 8)) rfl ?_
      exact aw_iret dX9_end_90 rfl k
    · have k := k.2.2.2.1 hc
      refine aw_tableIn (x := v2) (tgt := 91) dX9_end_19 (by omega) (by omega) (by rw [hc]; rfl) (by decide) ?_
      refine aw_aload_n 0 dX9_end_91 rfl rfl ?_
      obtain ⟨o8, k⟩ := k
      refine aw_getI dX9_end_92 fl_X9_250 rfl o8 (x := (h (h (h v0 1) v1) 9)) rfl ?_
      exact aw_iret dX9_end_95 rfl k
    · have k := k.2.2.2.2.1 hc
      refine aw_tableIn (x := v2) (tgt := 96) dX9_end_19 (by omega) (by omega) (by rw [hc]; rfl) (by decide) ?_
      refine aw_aload_n 0 dX9_end_96 rfl rfl ?_
      obtain ⟨o9, k⟩ := k
      refine aw_getI dX9_end_97 fl_X9_176 rfl o9 (x := (h (h (h v0 1) v1) 10)) rfl ?_
      exact aw_iret dX9_end_100 rfl k
    · have k := k.2.2.2.2.2.1 hc
      refine aw_tableIn (x := v2) (tgt := 101) dX9_end_19 (by omega) (by omega) (by rw [hc]; rfl) (by decide) ?_
      refine aw_aload_n 0 dX9_end_101 rfl rfl ?_
      obtain ⟨o10, k⟩ := k
      refine aw_getI dX9_end_102 fl_X9_223 rfl o10 (x := (h (h (h v0 1) v1) 11)) rfl ?_
      exact aw_iret dX9_end_105 rfl k
    · have k := k.2.2.2.2.2.2.1 hc
      refine aw_tableIn (x := v2) (tgt := 106) dX9_end_19 (by omega) (by omega) (by rw [hc]; rfl) (by decide) ?_
      refine aw_aload_n 0 dX9_end_106 rfl rfl ?_
      obtain ⟨o11, k⟩ := k
      refine aw_getI dX9_end_107 fl_X9_253 rfl o11 (x := (h (h (h v0 1) v1) 12)) rfl ?_
      exact aw_iret dX9_end_110 rfl k
    · have k := k.2.2.2.2.2.2.2.1 hc
      refine aw_tableIn (x := v2) (tgt := 111) dX9_end_19 (by omega) (by omega) (by rw [hc]; rfl) (by decide) ?_
      refine aw_aload_n 0 dX9_end_111 rfl rfl ?_
      obtain ⟨o12, k⟩ := k
      refine aw_getI dX9_end_112 fl_X9_256 rfl o12 (x := (h (h (h v0 1) v1) 13)) rfl ?_
      refine aw_if_eq (tgt := 122) dX9_end_115 (by decide) (fun hc => ?_) (fun hc => ?_)
      · have k := k.1 hc
        refine aw_iconst dX9_end_122 ⟨by decide, by decide⟩ ?_
        exact aw_iret dX9_end_123 rfl k
      · have k := k.2 hc
        refine aw_iconst dX9_end_118 ⟨by decide, by decide⟩ ?_
        refine aw_goto (tgt := 123) dX9_end_119 (by decide) ?_
        exact aw_iret dX9_end_123 rfl k
    · have k := k.2.2.2.2.2.2.2.2.1 hc
      refine aw_tableIn (x := v2) (tgt := 124) dX9_end_19 (by omega) (by omega) (by rw [hc]; rfl) (by decide) ?_
      refine aw_aload_n 0 dX9_end_124 rfl rfl ?_
      obtain ⟨o13, k⟩ := k
      refine aw_getR dX9_end_125 fl_X9_259 rfl o13 (x := (h (h (h v0 1) v1) 5)) rfl ?_
      obtain ⟨o14, k⟩ := k
      refine aw_getI dX9_end_128 fl_X9_263 rfl o14 (x := (h (h (h (h v0 1) v1) 5) 2)) rfl ?_
      exact aw_iret dX9_end_131 rfl k
    · have k := k.2.2.2.2.2.2.2.2.2.1 hc
      refine aw_tableIn (x := v2) (tgt := 132) dX9_end_19 (by omega) (by omega) (by rw [hc]; rfl) (by decide) ?_
      refine aw_aload_n 0 dX9_end_132 rfl rfl ?_
      obtain ⟨o15, k⟩ := k
      refine aw_getI dX9_end_133 fl_X9_182 rfl o15 (x := (h (h (h v0 1) v1) 14)) rfl ?_
      exact aw_iret dX9_end_136 rfl k
    · have k := k.2.2.2.2.2.2.2.2.2.2.1 hc
      refine aw_tableIn (x := v2) (tgt := 137) dX9_end_19 (by omega) (by omega) (by rw [hc]; rfl) (by decide) ?_
      refine aw_aload_n 0 dX9_end_137 rfl rfl ?_
      obtain ⟨o16, k⟩ := k
      refine aw_getI dX9_end_138 fl_X9_185 rfl o16 (x := (h (h (h v0 1) v1) 15)) rfl ?_
      exact aw_iret dX9_end_141 rfl k
    · have k := k.2.2.2.2.2.2.2.2.2.2.2 hc
      refine aw_tableOut (x := v2) (tgt := 142) dX9_end_19 hc (by decide) ?_
      refine aw_sipush dX9_end_142 ⟨by decide, by decide⟩ (by decide) ?_
      exact aw_iret dX9_end_145 rfl k
  · have k := k.2 (b2i_n.mp hc)
    refine aw_sipush dX9_end_7 ⟨by decide, by decide⟩ (by decide) ?_
    exact aw_iret dX9_end_10 rfl k
theorem rn_X9_end {G : GG} {Q : Option VV → Hp → Prop} {v0 v1 v2 : Int} {h : Hp} (k : ((¬ (v1 < 0 ∨ 3 < v1)) → (h v0 (-1) = 10) ∧ (h (h v0 1) (-1) = 31) ∧ (0 ≤ v1) ∧ (v1 < h (h v0 1) (-2)) ∧ ((v2 = 0) → (h (h (h v0 1) v1) (-1) = 2) ∧ Q (some (vI (h (h (h v0 1) v1) 6))) h) ∧ ((v2 = 1) → (h (h (h v0 1) v1) (-1) = 2) ∧ Q (some (vI (h (h (h v0 1) v1) 7))) h) ∧ ((v2 = 2) → (h (h (h v0 1) v1) (-1) = 2) ∧ Q (some (vI (h (h (h v0 1) v1) 8))) h) ∧ ((v2 = 3) → (h (h (h v0 1) v1) (-1) = 2) ∧ Q (some (vI (h (h (h v0 1) v1) 9))) h) ∧ ((v2 = 4) → (h (h (h v0 1) v1) (-1) = 2) ∧ Q (some (vI (h (h (h v0 1) v1) 10))) h) ∧ ((v2 = 5) → (h (h (h v0 1) v1) (-1) = 2) ∧ Q (some (vI (h (h (h v0 1) v1) 11))) h) ∧ ((v2 = 6) → (h (h (h v0 1) v1) (-1) = 2) ∧ Q (some (vI (h (h (h v0 1) v1) 12))) h) ∧ ((v2 = 7) → (h (h (h v0 1) v1) (-1) = 2) ∧ (((h (h (h v0 1) v1) 13) = 0) → Q (some (vI 0)) h) ∧ ((¬ ((h (h (h v0 1) v1) 13) = 0)) → Q (some (vI 1)) h)) ∧ ((v2 = 8) → (h (h (h v0 1) v1) (-1) = 2) ∧ (h (h (h (h v0 1) v1) 5) (-1) = 1) ∧ Q (some (vI (h (h (h (h v0 1) v1) 5) 2))) h) ∧ ((v2 = 9) → (h (h (h v0 1) v1) (-1) = 2) ∧ Q (some (vI (h (h (h v0 1) v1) 14))) h) ∧ ((v2 = 10) → (h (h (h v0 1) v1) (-1) = 2) ∧ Q (some (vI (h (h (h v0 1) v1) 15))) h) ∧ ((v2 < 0 ∨ 10 < v2) → Q (some (vI (-1002))) h)) ∧ ((v1 < 0 ∨ 3 < v1) → Q (some (vI (-1001))) h)) : Runs G mm_X9_end [vR v0, vI v1, vI v2] h Q := Runs.of (by decide +kernel) (Nat.le_of_ble_eq_true rfl) (sg_X9_end_0 (b := (0, 0)) k)
set_option maxRecDepth 20000 in
theorem sg_X9_erase_0 {G : GG} {b : Nat × Nat} {Q : Option VV → Hp → Prop} {v0 : Int} {h : Hp} (k : (h v0 (-1) = 10) ∧ (h (h v0 3) (-1) = 7) ∧ ∀ h1, h1 = wr h (h v0 3) 2 0 → Q (some (vI (h (h v0 3) 2))) h1) : AW G mm_X9_erase b 0 [(0, vR v0)] [] h Q := by
  refine aw_aload_n 0 dX9_erase_0 rfl rfl ?_
  obtain ⟨o1, k⟩ := k
  refine aw_getR dX9_erase_1 fl_X9_31 rfl o1 (x := (h v0 3)) rfl ?_
  obtain ⟨o2, k⟩ := k
  refine aw_getI dX9_erase_4 fl_X9_51 rfl o2 (x := (h (h v0 3) 2)) rfl ?_
  refine aw_istore_n dX9_erase_7 rfl (by decide) ?_
  refine aw_aload_n 1 dX9_erase_8 rfl rfl ?_
  refine aw_getR dX9_erase_9 fl_X9_31 rfl o1 (x := (h v0 3)) rfl ?_
  refine aw_iconst dX9_erase_12 ⟨by decide, by decide⟩ ?_
  refine aw_putI dX9_erase_13 fl_X9_51 (fun q hq hf => by cases hq; cases hf) rfl rfl o2 ?_
  refine aw_hp (fun h1 e3 => ?_)
  have k := k h1 e3
  refine aw_iload_n 0 dX9_erase_16 rfl rfl ?_
  exact aw_iret dX9_erase_17 rfl k
theorem rn_X9_erase {G : GG} {Q : Option VV → Hp → Prop} {v0 : Int} {h : Hp} (k : (h v0 (-1) = 10) ∧ (h (h v0 3) (-1) = 7) ∧ ∀ h1, h1 = wr h (h v0 3) 2 0 → Q (some (vI (h (h v0 3) 2))) h1) : Runs G mm_X9_erase [vR v0] h Q := Runs.of (by decide +kernel) (Nat.le_of_ble_eq_true rfl) (sg_X9_erase_0 (b := (0, 0)) k)
set_option maxRecDepth 20000 in
theorem sg_X9_fault_0 {G : GG} {b : Nat × Nat} {Q : Option VV → Hp → Prop} {v0 : Int} {h : Hp} (k : (h v0 (-1) = 10) ∧ (h (h v0 3) (-1) = 7) ∧ Runs G mm_X6_findFault [vR (h v0 3)] h (fun r h' => AW G mm_X9_fault b 7 [] (r.toList ++ []) h' Q)) : AW G mm_X9_fault b 0 [(0, vR v0)] [] h Q := by
  refine aw_aload_n 0 dX9_fault_0 rfl rfl ?_
  obtain ⟨o1, k⟩ := k
  refine aw_getR dX9_fault_1 fl_X9_31 rfl o1 (x := (h v0 3)) rfl ?_
  obtain ⟨o2, k⟩ := k
  refine aw_callV (M' := mm_X6_findFault) 6 [] [] lk_X9_58 ⟨_, rfl, rfl⟩ dX9_fault_4 rfl (Nat.le_of_ble_eq_true rfl) ⟨by decide, by decide, Nat.zero_le _, Nat.zero_le _⟩ o2 ?_
  exact k.mono (fun _ _ z => aw_sub [] rfl z)
theorem rn_X9_fault {G : GG} {Q : Option VV → Hp → Prop} {v0 : Int} {h : Hp} (k : (h v0 (-1) = 10) ∧ (h (h v0 3) (-1) = 7) ∧ Runs G mm_X6_findFault [vR (h v0 3)] h (fun r h' => AW G mm_X9_fault (0, 0) 7 [] (r.toList ++ []) h' Q)) : Runs G mm_X9_fault [vR v0] h Q := Runs.of (by decide +kernel) (Nat.le_of_ble_eq_true rfl) (sg_X9_fault_0 (b := (0, 0)) k)
set_option maxRecDepth 20000 in
theorem sg_X9_fault_7 {G : GG} {b : Nat × Nat} {Q : Option VV → Hp → Prop} {s0 : Int} {h : Hp} (k : Q (some (vI s0)) h) : AW G mm_X9_fault b 7 [] [vI s0] h Q := by
  exact aw_iret dX9_fault_7 rfl k
set_option maxRecDepth 20000 in
theorem sg_X9_firstEndOf_0 {G : GG} {b : Nat × Nat} {Q : Option VV → Hp → Prop} {v0 : Int} {h : Hp} (k : (inI (v0 * 2)) ∧ Q (some (vI (v0 * 2))) h) : AW G mm_X9_firstEndOf b 0 [(0, vI v0)] [] h Q := by
  refine aw_iload_n 0 dX9_firstEndOf_0 rfl rfl ?_
  refine aw_iconst dX9_firstEndOf_1 ⟨by decide, by decide⟩ ?_
  obtain ⟨o1, k⟩ := k
  refine aw_imul dX9_firstEndOf_2 o1 ?_
  exact aw_iret dX9_firstEndOf_3 rfl k
theorem rn_X9_firstEndOf {G : GG} {Q : Option VV → Hp → Prop} {v0 : Int} {h : Hp} (k : (inI (v0 * 2)) ∧ Q (some (vI (v0 * 2))) h) : Runs G mm_X9_firstEndOf [vI v0] h Q := Runs.of (by decide +kernel) (Nat.le_of_ble_eq_true rfl) (sg_X9_firstEndOf_0 (b := (0, 0)) k)
set_option maxRecDepth 20000 in
theorem sg_X9_hasReadyEnd_0 {G : GG} {b : Nat × Nat} {Q : Option VV → Hp → Prop} {v0 v1 : Int} {h : Hp} (k : (h v0 (-1) = 10) ∧ Runs G mm_X9_firstEndOf [vI v1] h (fun r h' => AW G mm_X9_hasReadyEnd b 8 [(0, vR v0), (1, vI v1)] (r.toList ++ [vR (h v0 1)]) h' Q)) : AW G mm_X9_hasReadyEnd b 0 [(0, vR v0), (1, vI v1)] [] h Q := by
  refine aw_aload_n 0 dX9_hasReadyEnd_0 rfl rfl ?_
  obtain ⟨o1, k⟩ := k
  refine aw_getR dX9_hasReadyEnd_1 fl_X9_17 rfl o1 (x := (h v0 1)) rfl ?_
  refine aw_iload_n 1 dX9_hasReadyEnd_4 rfl rfl ?_
  refine aw_callS (M' := mm_X9_firstEndOf) [vI v1] [vR (h v0 1)] lk_X9_154 dX9_hasReadyEnd_5 rfl (Nat.le_of_ble_eq_true rfl) ⟨by decide, by decide, Nat.zero_le _, Nat.zero_le _⟩ ?_
  exact k
theorem rn_X9_hasReadyEnd {G : GG} {Q : Option VV → Hp → Prop} {v0 v1 : Int} {h : Hp} (k : (h v0 (-1) = 10) ∧ Runs G mm_X9_firstEndOf [vI v1] h (fun r h' => AW G mm_X9_hasReadyEnd (0, 0) 8 [(0, vR v0), (1, vI v1)] (r.toList ++ [vR (h v0 1)]) h' Q)) : Runs G mm_X9_hasReadyEnd [vR v0, vI v1] h Q := Runs.of (by decide +kernel) (Nat.le_of_ble_eq_true rfl) (sg_X9_hasReadyEnd_0 (b := (0, 0)) k)
set_option maxRecDepth 20000 in
theorem sg_X9_hasReadyEnd_8 {G : GG} {b : Nat × Nat} {Q : Option VV → Hp → Prop} {v0 v1 s0 s1 : Int} {h : Hp} (k : (h s1 (-1) = 31) ∧ (0 ≤ s0) ∧ (s0 < h s1 (-2)) ∧ (h (h s1 s0) (-1) = 2) ∧ (((h (h s1 s0) 6) = 1) → Q (some (vI 1)) h) ∧ ((¬ ((h (h s1 s0) 6) = 1)) → (h v0 (-1) = 10) ∧ Runs G mm_X9_firstEndOf [vI v1] h (fun r h' => AW G mm_X9_hasReadyEnd b 24 [] (r.toList ++ [vR (h v0 1)]) h' Q))) : AW G mm_X9_hasReadyEnd b 8 [(0, vR v0), (1, vI v1)] [vI s0, vR s1] h Q := by
  obtain ⟨o1, k⟩ := k
  obtain ⟨o2, k⟩ := k
  obtain ⟨o3, k⟩ := k
  refine aw_aald 3 1 aq_1 dX9_hasReadyEnd_8 o1 o2 o3 (x := (h s1 s0)) rfl ?_
  obtain ⟨o4, k⟩ := k
  refine aw_getI dX9_hasReadyEnd_9 fl_X9_158 rfl o4 (x := (h (h s1 s0) 6)) rfl ?_
  refine aw_iconst dX9_hasReadyEnd_12 ⟨by decide, by decide⟩ ?_
  refine aw_icmp_eq (tgt := 35) dX9_hasReadyEnd_13 (by decide) (fun hc => ?_) (fun hc => ?_)
  · have k := k.1 hc
    refine aw_iconst dX9_hasReadyEnd_35 ⟨by decide, by decide⟩ ?_
    refine aw_goto (tgt := 40) dX9_hasReadyEnd_36 (by decide) ?_
    exact aw_zret dX9_hasReadyEnd_40 rfl (by decide) k
  · have k := k.2 hc
    refine aw_aload_n 0 dX9_hasReadyEnd_16 rfl rfl ?_
    obtain ⟨o5, k⟩ := k
    refine aw_getR dX9_hasReadyEnd_17 fl_X9_17 rfl o5 (x := (h v0 1)) rfl ?_
    refine aw_iload_n 1 dX9_hasReadyEnd_20 rfl rfl ?_
    refine aw_callS (M' := mm_X9_firstEndOf) [vI v1] [vR (h v0 1)] lk_X9_154 dX9_hasReadyEnd_21 rfl (Nat.le_of_ble_eq_true rfl) ⟨by decide, by decide, Nat.zero_le _, Nat.zero_le _⟩ ?_
    exact k.mono (fun _ _ z => aw_sub [] rfl z)
set_option maxRecDepth 20000 in
theorem sg_X9_hasReadyEnd_24 {G : GG} {b : Nat × Nat} {Q : Option VV → Hp → Prop} {s0 s1 : Int} {h : Hp} (k : Runs G mm_X9_otherEnd [vI s0] h (fun r h' => AW G mm_X9_hasReadyEnd b 27 [] (r.toList ++ [vR s1]) h' Q)) : AW G mm_X9_hasReadyEnd b 24 [] [vI s0, vR s1] h Q := by
  refine aw_callS (M' := mm_X9_otherEnd) [vI s0] [vR s1] lk_X9_161 dX9_hasReadyEnd_24 rfl (Nat.le_of_ble_eq_true rfl) ⟨by decide, by decide, Nat.zero_le _, Nat.zero_le _⟩ ?_
  exact k
set_option maxRecDepth 20000 in
theorem sg_X9_hasReadyEnd_27 {G : GG} {b : Nat × Nat} {Q : Option VV → Hp → Prop} {s0 s1 : Int} {h : Hp} (k : (h s1 (-1) = 31) ∧ (0 ≤ s0) ∧ (s0 < h s1 (-2)) ∧ (h (h s1 s0) (-1) = 2) ∧ ((¬ (h (h s1 s0) 6) = 1) → Q (some (vI 0)) h) ∧ (((h (h s1 s0) 6) = 1) → Q (some (vI 1)) h)) : AW G mm_X9_hasReadyEnd b 27 [] [vI s0, vR s1] h Q := by
  obtain ⟨o1, k⟩ := k
  obtain ⟨o2, k⟩ := k
  obtain ⟨o3, k⟩ := k
  refine aw_aald 3 1 aq_1 dX9_hasReadyEnd_27 o1 o2 o3 (x := (h s1 s0)) rfl ?_
  obtain ⟨o4, k⟩ := k
  refine aw_getI dX9_hasReadyEnd_28 fl_X9_158 rfl o4 (x := (h (h s1 s0) 6)) rfl ?_
  refine aw_iconst dX9_hasReadyEnd_31 ⟨by decide, by decide⟩ ?_
  refine aw_icmp_ne (tgt := 39) dX9_hasReadyEnd_32 (by decide) (fun hc => ?_) (fun hc => ?_)
  · have k := k.1 hc
    refine aw_iconst dX9_hasReadyEnd_39 ⟨by decide, by decide⟩ ?_
    exact aw_zret dX9_hasReadyEnd_40 rfl (by decide) k
  · have k := k.2 hc
    refine aw_iconst dX9_hasReadyEnd_35 ⟨by decide, by decide⟩ ?_
    refine aw_goto (tgt := 40) dX9_hasReadyEnd_36 (by decide) ?_
    exact aw_zret dX9_hasReadyEnd_40 rfl (by decide) k
set_option maxRecDepth 20000 in
theorem sg_X9_init_0 {G : GG} {b : Nat × Nat} {Q : Option VV → Hp → Prop} {v0 : Int} {h : Hp} (k : (h v0 (-1) = 10) ∧ (inI (h 0 0 + 1)) ∧ (1 ≤ b.1) ∧ (2 ≤ b.2) ∧ ∀ a7, a7 = h 0 0 + 1 → ∀ h1, h1 = nw h 32 2 → ∀ h2, h2 = wr h1 v0 0 a7 → (inI (h2 0 0 + 1)) ∧ (1 ≤ b.1 - 1) ∧ (4 ≤ b.2 - 2) ∧ ∀ a17, a17 = h2 0 0 + 1 → ∀ h3, h3 = nw h2 31 4 → ∀ h4, h4 = wr h3 v0 1 a17 → (inI (h4 0 0 + 1)) ∧ (1 ≤ b.1 - 1 - 1) ∧ (6 ≤ b.2 - 2 - 4) ∧ ∀ a28, a28 = h4 0 0 + 1 → ∀ h5, h5 = nw h4 8 0 → (27 ≤ b.1 - 1 - 1 - 1) ∧ (276 ≤ b.2 - 2 - 4 - 6) ∧ Runs G mm_X7_init [vR a28] h5 (fun r h' => AW G mm_X9_init (b.1 - 1 - 1 - 1 - 27, b.2 - 2 - 4 - 6 - 276) 28 [(0, vR v0)] (r.toList ++ [vR a28, vR v0]) h' Q)) : AW G mm_X9_init b 0 [(0, vR v0)] [] h Q := by
  refine aw_aload_n 0 dX9_init_0 rfl rfl ?_
  obtain ⟨o1, k⟩ := k
  refine aw_use (fun _ _ oz2 => ?_)
  refine aw_obj lo_X9_1 dX9_init_1 (nz_s oz2 o1 (by decide)) ⟨by decide, Nat.le_of_ble_eq_true rfl⟩ ?_
  refine aw_aload_n 0 dX9_init_4 rfl rfl ?_
  refine aw_iconst dX9_init_5 ⟨by decide, by decide⟩ ?_
  refine aw_use (fun _ _ oh3 => ?_)
  obtain ⟨o4, k⟩ := k
  obtain ⟨o5, k⟩ := k
  obtain ⟨o6, k⟩ := k
  refine aw_anew 4 2 aq_2 al_X9_9 dX9_init_6 (by decide) (by decide) o4 o5 o6 ?_
  refine aw_hq (fun a7 e8 h1 e9 => ?_)
  have k := k a7 e8 h1 e9
  have q10 := sh_f e9 e8
  have q11 := sh_n e9 oh3 o1 (by decide)
  refine aw_putR dX9_init_9 fl_X9_11 (fun q hq _ => by cases hq; exact ⟨rfl, rfl⟩) rfl rfl q11 ?_
  refine aw_hp (fun h2 e12 => ?_)
  have k := k h2 e12
  refine aw_aload_n 0 dX9_init_12 rfl rfl ?_
  refine aw_iconst dX9_init_13 ⟨by decide, by decide⟩ ?_
  refine aw_use (fun _ _ oh13 => ?_)
  obtain ⟨o14, k⟩ := k
  obtain ⟨o15, k⟩ := k
  obtain ⟨o16, k⟩ := k
  refine aw_anew 3 1 aq_1 al_X9_15 dX9_init_14 (by decide) (by decide) o14 o15 o16 ?_
  refine aw_hq (fun a17 e18 h3 e19 => ?_)
  have k := k a17 e18 h3 e19
  have q20 := sh_f e19 e18
  have q21 := sh_w e12 (by decide) q11
  have q22 := sh_n e19 oh13 q21 (by decide)
  refine aw_putR dX9_init_17 fl_X9_17 (fun q hq _ => by cases hq; exact ⟨rfl, rfl⟩) rfl rfl q22 ?_
  refine aw_hp (fun h4 e23 => ?_)
  have k := k h4 e23
  refine aw_aload_n 0 dX9_init_20 rfl rfl ?_
  refine aw_use (fun _ _ oh24 => ?_)
  obtain ⟨o25, k⟩ := k
  obtain ⟨o26, k⟩ := k
  obtain ⟨o27, k⟩ := k
  refine aw_new 7 nl_X9_21 dX9_init_21 o25 o26 o27 ?_
  refine aw_hq (fun a28 e29 h5 e30 => ?_)
  have k := k a28 e29 h5 e30
  have q31 := sh_f e30 e29
  refine aw_dup dX9_init_24 rfl ?_
  obtain ⟨o32, k⟩ := k
  obtain ⟨o33, k⟩ := k
  refine aw_use (fun _ _ oz34 => ?_)
  refine aw_callI (M' := mm_X7_init) [] [vR a28, vR v0] lk_X9_23 dX9_init_25 rfl (Nat.le_of_ble_eq_true rfl) ⟨by decide, by decide, o32, o33⟩ (nz_s oz34 q31 (by decide)) ?_
  exact k
set_option maxRecDepth 20000 in
theorem sg_X9_init_28 {G : GG} {b : Nat × Nat} {Q : Option VV → Hp → Prop} {v0 s0 s1 : Int} {h : Hp} (k : (h s1 (-1) = 10) ∧ ∀ h1, h1 = wr h s1 2 s0 → (inI (h1 0 0 + 1)) ∧ (1 ≤ b.1) ∧ (7 ≤ b.2) ∧ ∀ a7, a7 = h1 0 0 + 1 → ∀ h2, h2 = nw h1 7 0 → (2 ≤ b.1 - 1) ∧ (205 ≤ b.2 - 7) ∧ Runs G mm_X6_init [vR a7] h2 (fun r h' => AW G mm_X9_init (b.1 - 1 - 2, b.2 - 7 - 205) 39 [(0, vR v0)] (r.toList ++ [vR a7, vR v0]) h' Q)) : AW G mm_X9_init b 28 [(0, vR v0)] [vR s0, vR s1] h Q := by
  obtain ⟨o1, k⟩ := k
  refine aw_putR dX9_init_28 fl_X9_24 (fun q hq _ => by cases hq; exact ⟨rfl, rfl⟩) rfl rfl o1 ?_
  refine aw_hp (fun h1 e2 => ?_)
  have k := k h1 e2
  refine aw_aload_n 0 dX9_init_31 rfl rfl ?_
  refine aw_use (fun _ _ oh3 => ?_)
  obtain ⟨o4, k⟩ := k
  obtain ⟨o5, k⟩ := k
  obtain ⟨o6, k⟩ := k
  refine aw_new 6 nl_X9_28 dX9_init_32 o4 o5 o6 ?_
  refine aw_hq (fun a7 e8 h2 e9 => ?_)
  have k := k a7 e8 h2 e9
  have q10 := sh_f e9 e8
  refine aw_dup dX9_init_35 rfl ?_
  obtain ⟨o11, k⟩ := k
  obtain ⟨o12, k⟩ := k
  refine aw_use (fun _ _ oz13 => ?_)
  refine aw_callIN (M' := mm_X6_init) [] [vR a7, vR v0] lk_X9_30 dX9_init_36 rfl (Nat.le_of_ble_eq_true rfl) ⟨by decide, by decide, o11, o12⟩ (nz_s oz13 q10 (by decide)) ?_
  exact k
set_option maxRecDepth 20000 in
theorem sg_X9_init_39 {G : GG} {b : Nat × Nat} {Q : Option VV → Hp → Prop} {v0 s0 s1 : Int} {h : Hp} (k : (h s1 (-1) = 10) ∧ ∀ h1, h1 = wr h s1 3 s0 → (h v0 (-1) = 10) ∧ ∀ h2, h2 = wr h1 v0 4 0 → ∀ h3, h3 = wr h2 v0 5 0 → AW G mm_X9_init b 54 [(0, vR v0), (1, vI 0)] [] h3 Q) : AW G mm_X9_init b 39 [(0, vR v0)] [vR s0, vR s1] h Q := by
  obtain ⟨o1, k⟩ := k
  refine aw_putR dX9_init_39 fl_X9_31 (fun q hq _ => by cases hq; exact ⟨rfl, rfl⟩) rfl rfl o1 ?_
  refine aw_hp (fun h1 e2 => ?_)
  have k := k h1 e2
  refine aw_aload_n 0 dX9_init_42 rfl rfl ?_
  refine aw_null dX9_init_43 ?_
  obtain ⟨o3, k⟩ := k
  have q4 := sh_w e2 (by decide) o3
  refine aw_putR dX9_init_44 fl_X9_35 (fun q hq hf => by cases hq; cases hf) rfl rfl q4 ?_
  refine aw_hp (fun h2 e5 => ?_)
  have k := k h2 e5
  refine aw_aload_n 0 dX9_init_47 rfl rfl ?_
  refine aw_iconst dX9_init_48 ⟨by decide, by decide⟩ ?_
  have q6 := sh_w e5 (by decide) q4
  refine aw_putI dX9_init_49 fl_X9_39 (fun q hq hf => by cases hq; cases hf) rfl rfl q6 ?_
  refine aw_hp (fun h3 e7 => ?_)
  have k := k h3 e7
  refine aw_iconst dX9_init_52 ⟨by decide, by decide⟩ ?_
  refine aw_istore_n dX9_init_53 rfl (by decide) ?_
  exact aw_sub [1, 0] rfl k
set_option maxRecDepth 20000 in
theorem sg_X9_init_54 {G : GG} {b : Nat × Nat} {Q : Option VV → Hp → Prop} {v0 v1 : Int} {h : Hp} (k : ((2 ≤ v1) → AW G mm_X9_init b 80 [(0, vR v0), (1, vI 0)] [] h Q) ∧ ((¬ (2 ≤ v1)) → (h v0 (-1) = 10) ∧ (inI (h 0 0 + 1)) ∧ (1 ≤ b.1) ∧ (6 ≤ b.2) ∧ ∀ a6, a6 = h 0 0 + 1 → ∀ h1, h1 = nw h 3 0 → (6 ≤ b.1 - 1) ∧ (32 ≤ b.2 - 6) ∧ Runs G mm_X2_init [vR a6] h1 (fun r h' => AW G mm_X9_init (b.1 - 1 - 6, b.2 - 6 - 32) 71 [(0, vR v0), (1, vI v1)] (r.toList ++ [vR a6, vI v1, vR (h v0 0)]) h' Q))) : AW G mm_X9_init b 54 [(0, vR v0), (1, vI v1)] [] h Q := by
  refine aw_iload_n 1 dX9_init_54 rfl rfl ?_
  refine aw_iconst dX9_init_55 ⟨by decide, by decide⟩ ?_
  refine aw_icmp_ge (tgt := 78) dX9_init_56 (by decide) (fun hc => ?_) (fun hc => ?_)
  · have k := k.1 hc
    refine aw_iconst dX9_init_78 ⟨by decide, by decide⟩ ?_
    refine aw_istore_n dX9_init_79 rfl (by decide) ?_
    exact aw_sub [1, 0] rfl k
  · have k := k.2 hc
    refine aw_aload_n 0 dX9_init_59 rfl rfl ?_
    obtain ⟨o1, k⟩ := k
    refine aw_getR dX9_init_60 fl_X9_11 rfl o1 (x := (h v0 0)) rfl ?_
    refine aw_iload_n 1 dX9_init_63 rfl rfl ?_
    refine aw_use (fun _ _ oh2 => ?_)
    obtain ⟨o3, k⟩ := k
    obtain ⟨o4, k⟩ := k
    obtain ⟨o5, k⟩ := k
    refine aw_new 2 nl_X9_9 dX9_init_64 o3 o4 o5 ?_
    refine aw_hq (fun a6 e7 h1 e8 => ?_)
    have k := k a6 e7 h1 e8
    have q9 := sh_f e8 e7
    refine aw_dup dX9_init_67 rfl ?_
    obtain ⟨o10, k⟩ := k
    obtain ⟨o11, k⟩ := k
    refine aw_use (fun _ _ oz12 => ?_)
    refine aw_callI (M' := mm_X2_init) [] [vR a6, vI v1, vR (h v0 0)] lk_X9_43 dX9_init_68 rfl (Nat.le_of_ble_eq_true rfl) ⟨by decide, by decide, o10, o11⟩ (nz_s oz12 q9 (by decide)) ?_
    exact k
set_option maxRecDepth 20000 in
theorem sg_X9_init_80 {G : GG} {b : Nat × Nat} {Q : Option VV → Hp → Prop} {v0 v1 : Int} {h : Hp} (k : ((4 ≤ v1) → Q none h) ∧ ((¬ (4 ≤ v1)) → (h v0 (-1) = 10) ∧ (inI (h 0 0 + 1)) ∧ (1 ≤ b.1) ∧ (16 ≤ b.2) ∧ ∀ a6, a6 = h 0 0 + 1 → ∀ h1, h1 = nw h 2 0 → (0 ≤ v1) ∧ (h1 (h v0 0) (-1) = 32) ∧ (0 ≤ (v1 % 2)) ∧ ((v1 % 2) < h1 (h v0 0) (-2)) ∧ (9 ≤ b.1 - 1) ∧ (42 ≤ b.2 - 16) ∧ Runs G mm_X1_init [vR a6, vI v1, vR (h1 (h v0 0) (v1 % 2)), vR (h v0 2)] h1 (fun r h' => AW G mm_X9_init (b.1 - 1 - 9, b.2 - 16 - 42) 110 [(0, vR v0), (1, vI v1)] (r.toList ++ [vR a6, vI v1, vR (h v0 1)]) h' Q))) : AW G mm_X9_init b 80 [(0, vR v0), (1, vI v1)] [] h Q := by
  refine aw_iload_n 1 dX9_init_80 rfl rfl ?_
  refine aw_iconst dX9_init_81 ⟨by decide, by decide⟩ ?_
  refine aw_icmp_ge (tgt := 117) dX9_init_82 (by decide) (fun hc => ?_) (fun hc => ?_)
  · have k := k.1 hc
    exact aw_vret dX9_init_117 rfl k
  · have k := k.2 hc
    refine aw_aload_n 0 dX9_init_85 rfl rfl ?_
    obtain ⟨o1, k⟩ := k
    refine aw_getR dX9_init_86 fl_X9_17 rfl o1 (x := (h v0 1)) rfl ?_
    refine aw_iload_n 1 dX9_init_89 rfl rfl ?_
    refine aw_use (fun _ _ oh2 => ?_)
    obtain ⟨o3, k⟩ := k
    obtain ⟨o4, k⟩ := k
    obtain ⟨o5, k⟩ := k
    refine aw_new 1 nl_X9_15 dX9_init_90 o3 o4 o5 ?_
    refine aw_hq (fun a6 e7 h1 e8 => ?_)
    have k := k a6 e7 h1 e8
    have q9 := sh_f e8 e7
    refine aw_dup dX9_init_93 rfl ?_
    refine aw_iload_n 1 dX9_init_94 rfl rfl ?_
    refine aw_aload_n 0 dX9_init_95 rfl rfl ?_
    have q10 := sh_n e8 oh2 o1 (by decide)
    refine aw_getR dX9_init_96 fl_X9_11 rfl q10 (x := (h v0 0)) (rd_n e8 oh2 o1 (by decide) 0) ?_
    refine aw_iload_n 1 dX9_init_99 rfl rfl ?_
    refine aw_iconst dX9_init_100 ⟨by decide, by decide⟩ ?_
    obtain ⟨o11, k⟩ := k
    refine aw_irem dX9_init_101 o11 (by decide) ?_
    obtain ⟨o12, k⟩ := k
    obtain ⟨o13, k⟩ := k
    obtain ⟨o14, k⟩ := k
    refine aw_aald 4 2 aq_2 dX9_init_102 o12 o13 o14 (x := (h1 (h v0 0) (v1 % 2))) rfl ?_
    refine aw_aload_n 0 dX9_init_103 rfl rfl ?_
    refine aw_getR dX9_init_104 fl_X9_24 rfl q10 (x := (h v0 2)) (rd_n e8 oh2 o1 (by decide) 2) ?_
    obtain ⟨o15, k⟩ := k
    obtain ⟨o16, k⟩ := k
    refine aw_use (fun _ _ oz17 => ?_)
    refine aw_callI (M' := mm_X1_init) [vI v1, vR (h1 (h v0 0) (v1 % 2)), vR (h v0 2)] [vR a6, vI v1, vR (h v0 1)] lk_X9_44 dX9_init_107 rfl (Nat.le_of_ble_eq_true rfl) ⟨by decide, by decide, o15, o16⟩ (nz_s oz17 q9 (by decide)) ?_
    exact k
set_option maxRecDepth 20000 in
theorem sg_X9_init_71 {G : GG} {b : Nat × Nat} {Q : Option VV → Hp → Prop} {v0 v1 s0 s1 s2 : Int} {h : Hp} (k : (h s2 (-1) = 32) ∧ (0 ≤ s1) ∧ (s1 < h s2 (-2)) ∧ (h s0 (-1) = 3) ∧ ∀ h1, h1 = wr h s2 s1 s0 → (inI (v1 + 1)) ∧ AW G mm_X9_init b 54 [(0, vR v0), (1, vI (v1 + 1))] [] h1 Q) : AW G mm_X9_init b 71 [(0, vR v0), (1, vI v1)] [vR s0, vI s1, vR s2] h Q := by
  obtain ⟨o1, k⟩ := k
  obtain ⟨o2, k⟩ := k
  obtain ⟨o3, k⟩ := k
  obtain ⟨o4, k⟩ := k
  refine aw_aast 4 2 aq_2 dX9_init_71 o1 o2 o3 o4 ?_
  refine aw_hp (fun h1 e5 => ?_)
  have k := k h1 e5
  obtain ⟨o6, k⟩ := k
  refine aw_iinc 1 dX9_init_72 rfl o6 (by decide) ?_
  refine aw_goto (tgt := 54) dX9_init_75 (by decide) ?_
  exact aw_sub [1, 0] rfl k
set_option maxRecDepth 20000 in
theorem sg_X9_init_110 {G : GG} {b : Nat × Nat} {Q : Option VV → Hp → Prop} {v0 v1 s0 s1 s2 : Int} {h : Hp} (k : (h s2 (-1) = 31) ∧ (0 ≤ s1) ∧ (s1 < h s2 (-2)) ∧ (h s0 (-1) = 2) ∧ ∀ h1, h1 = wr h s2 s1 s0 → (inI (v1 + 1)) ∧ AW G mm_X9_init b 80 [(0, vR v0), (1, vI (v1 + 1))] [] h1 Q) : AW G mm_X9_init b 110 [(0, vR v0), (1, vI v1)] [vR s0, vI s1, vR s2] h Q := by
  obtain ⟨o1, k⟩ := k
  obtain ⟨o2, k⟩ := k
  obtain ⟨o3, k⟩ := k
  obtain ⟨o4, k⟩ := k
  refine aw_aast 3 1 aq_1 dX9_init_110 o1 o2 o3 o4 ?_
  refine aw_hp (fun h1 e5 => ?_)
  have k := k h1 e5
  obtain ⟨o6, k⟩ := k
  refine aw_iinc 1 dX9_init_111 rfl o6 (by decide) ?_
  refine aw_goto (tgt := 80) dX9_init_114 (by decide) ?_
  exact aw_sub [1, 0] rfl k
set_option maxRecDepth 20000 in
theorem sg_X9_join_0 {G : GG} {b : Nat × Nat} {Q : Option VV → Hp → Prop} {v0 v1 : Int} {h : Hp} (k : ((¬ (v1 < 0 ∨ 1 < v1)) → (h v0 (-1) = 10) ∧ Runs G mm_X9_hasReadyEnd [vR v0, vI v1] h (fun r h' => AW G mm_X9_join b 16 [(0, vR v0), (1, vI v1)] (r.toList ++ []) h' Q)) ∧ ((v1 < 0 ∨ 1 < v1) → Q (some (vI (-1001))) h)) : AW G mm_X9_join b 0 [(0, vR v0), (1, vI v1)] [] h Q := by
  refine aw_iload_n 1 dX9_join_0 rfl rfl ?_
  refine aw_callS (M' := mm_X9_isNoLine) [vI v1] [] lk_X9_148 dX9_join_1 rfl (Nat.le_of_ble_eq_true rfl) ⟨by decide, by decide, Nat.zero_le _, Nat.zero_le _⟩ ?_
  refine pu_X9_isNoLine ?_
  refine aw_if_eq (tgt := 11) dX9_join_4 (by decide) (fun hc => ?_) (fun hc => ?_)
  · have k := k.1 (b2i_0.mp hc)
    refine aw_aload_n 0 dX9_join_11 rfl rfl ?_
    refine aw_iload_n 1 dX9_join_12 rfl rfl ?_
    obtain ⟨o1, k⟩ := k
    refine aw_callV (M' := mm_X9_hasReadyEnd) 9 [vI v1] [] lk_X9_103 ⟨_, rfl, rfl⟩ dX9_join_13 rfl (Nat.le_of_ble_eq_true rfl) ⟨by decide, by decide, Nat.zero_le _, Nat.zero_le _⟩ o1 ?_
    exact k
  · have k := k.2 (b2i_n.mp hc)
    refine aw_sipush dX9_join_7 ⟨by decide, by decide⟩ (by decide) ?_
    exact aw_iret dX9_join_10 rfl k
theorem rn_X9_join {G : GG} {Q : Option VV → Hp → Prop} {v0 v1 : Int} {h : Hp} (k : ((¬ (v1 < 0 ∨ 1 < v1)) → (h v0 (-1) = 10) ∧ Runs G mm_X9_hasReadyEnd [vR v0, vI v1] h (fun r h' => AW G mm_X9_join (0, 0) 16 [(0, vR v0), (1, vI v1)] (r.toList ++ []) h' Q)) ∧ ((v1 < 0 ∨ 1 < v1) → Q (some (vI (-1001))) h)) : Runs G mm_X9_join [vR v0, vI v1] h Q := Runs.of (by decide +kernel) (Nat.le_of_ble_eq_true rfl) (sg_X9_join_0 (b := (0, 0)) k)
set_option maxRecDepth 20000 in
theorem sg_X9_join_16 {G : GG} {b : Nat × Nat} {Q : Option VV → Hp → Prop} {v0 v1 s0 : Int} {h : Hp} (k : ((s0 = 0) → (h v0 (-1) = 10) ∧ Runs G mm_X9_joinLine [vR v0, vI v1] h (fun r h' => AW G mm_X9_join b 28 [(0, vR v0)] (r.toList ++ []) h' Q)) ∧ ((¬ (s0 = 0)) → Q (some (vI (-1003))) h)) : AW G mm_X9_join b 16 [(0, vR v0), (1, vI v1)] [vI s0] h Q := by
  refine aw_if_eq (tgt := 23) dX9_join_16 (by decide) (fun hc => ?_) (fun hc => ?_)
  · have k := k.1 hc
    refine aw_aload_n 0 dX9_join_23 rfl rfl ?_
    refine aw_iload_n 1 dX9_join_24 rfl rfl ?_
    obtain ⟨o1, k⟩ := k
    refine aw_callV (M' := mm_X9_joinLine) 9 [vI v1] [] lk_X9_107 ⟨_, rfl, rfl⟩ dX9_join_25 rfl (Nat.le_of_ble_eq_true rfl) ⟨by decide, by decide, Nat.zero_le _, Nat.zero_le _⟩ o1 ?_
    exact k.mono (fun _ _ z => aw_sub [0] rfl z)
  · have k := k.2 hc
    refine aw_sipush dX9_join_19 ⟨by decide, by decide⟩ (by decide) ?_
    exact aw_iret dX9_join_22 rfl k
set_option maxRecDepth 20000 in
theorem sg_X9_join_28 {G : GG} {b : Nat × Nat} {Q : Option VV → Hp → Prop} {v0 : Int} {h : Hp} (k : (h v0 (-1) = 10) ∧ Runs G mm_X9_readyEnds [vR v0] h (fun r h' => AW G mm_X9_join b 32 [] (r.toList ++ []) h' Q)) : AW G mm_X9_join b 28 [(0, vR v0)] [] h Q := by
  refine aw_aload_n 0 dX9_join_28 rfl rfl ?_
  obtain ⟨o1, k⟩ := k
  refine aw_callV (M' := mm_X9_readyEnds) 9 [] [] lk_X9_151 ⟨_, rfl, rfl⟩ dX9_join_29 rfl (Nat.le_of_ble_eq_true rfl) ⟨by decide, by decide, Nat.zero_le _, Nat.zero_le _⟩ o1 ?_
  exact k.mono (fun _ _ z => aw_sub [] rfl z)
set_option maxRecDepth 20000 in
theorem sg_X9_join_32 {G : GG} {b : Nat × Nat} {Q : Option VV → Hp → Prop} {s0 : Int} {h : Hp} (k : Q (some (vI s0)) h) : AW G mm_X9_join b 32 [] [vI s0] h Q := by
  exact aw_iret dX9_join_32 rfl k
set_option maxRecDepth 20000 in
theorem sg_X9_joinLine_0 {G : GG} {b : Nat × Nat} {Q : Option VV → Hp → Prop} {v0 v1 : Int} {h : Hp} (k : (h v0 (-1) = 10) ∧ Runs G mm_X9_firstEndOf [vI v1] h (fun r h' => AW G mm_X9_joinLine b 8 [(0, vR v0), (1, vI v1)] (r.toList ++ [vR (h v0 1)]) h' Q)) : AW G mm_X9_joinLine b 0 [(0, vR v0), (1, vI v1)] [] h Q := by
  refine aw_aload_n 0 dX9_joinLine_0 rfl rfl ?_
  obtain ⟨o1, k⟩ := k
  refine aw_getR dX9_joinLine_1 fl_X9_17 rfl o1 (x := (h v0 1)) rfl ?_
  refine aw_iload_n 1 dX9_joinLine_4 rfl rfl ?_
  refine aw_callS (M' := mm_X9_firstEndOf) [vI v1] [vR (h v0 1)] lk_X9_154 dX9_joinLine_5 rfl (Nat.le_of_ble_eq_true rfl) ⟨by decide, by decide, Nat.zero_le _, Nat.zero_le _⟩ ?_
  exact k
theorem rn_X9_joinLine {G : GG} {Q : Option VV → Hp → Prop} {v0 v1 : Int} {h : Hp} (k : (h v0 (-1) = 10) ∧ Runs G mm_X9_firstEndOf [vI v1] h (fun r h' => AW G mm_X9_joinLine (0, 0) 8 [(0, vR v0), (1, vI v1)] (r.toList ++ [vR (h v0 1)]) h' Q)) : Runs G mm_X9_joinLine [vR v0, vI v1] h Q := Runs.of (by decide +kernel) (Nat.le_of_ble_eq_true rfl) (sg_X9_joinLine_0 (b := (0, 0)) k)
set_option maxRecDepth 20000 in
theorem sg_X9_joinLine_8 {G : GG} {b : Nat × Nat} {Q : Option VV → Hp → Prop} {v0 v1 s0 s1 : Int} {h : Hp} (k : (h s1 (-1) = 31) ∧ (0 ≤ s0) ∧ (s0 < h s1 (-2)) ∧ (h (h s1 s0) (-1) = 2) ∧ Runs G mm_X1_restart [vR (h s1 s0), vI 1] h (fun r h' => AW G mm_X9_joinLine b 13 [(0, vR v0), (1, vI v1)] (r.toList ++ []) h' Q)) : AW G mm_X9_joinLine b 8 [(0, vR v0), (1, vI v1)] [vI s0, vR s1] h Q := by
  obtain ⟨o1, k⟩ := k
  obtain ⟨o2, k⟩ := k
  obtain ⟨o3, k⟩ := k
  refine aw_aald 3 1 aq_1 dX9_joinLine_8 o1 o2 o3 (x := (h s1 s0)) rfl ?_
  refine aw_iconst dX9_joinLine_9 ⟨by decide, by decide⟩ ?_
  obtain ⟨o4, k⟩ := k
  refine aw_callV (M' := mm_X1_restart) 1 [vI 1] [] lk_X9_164 ⟨_, rfl, rfl⟩ dX9_joinLine_10 rfl (Nat.le_of_ble_eq_true rfl) ⟨by decide, by decide, Nat.zero_le _, Nat.zero_le _⟩ o4 ?_
  exact k
set_option maxRecDepth 20000 in
theorem sg_X9_joinLine_13 {G : GG} {b : Nat × Nat} {Q : Option VV → Hp → Prop} {v0 v1 : Int} {h : Hp} (k : (h v0 (-1) = 10) ∧ Runs G mm_X9_firstEndOf [vI v1] h (fun r h' => AW G mm_X9_joinLine b 21 [(0, vR v0), (1, vI v1)] (r.toList ++ [vR (h v0 1)]) h' Q)) : AW G mm_X9_joinLine b 13 [(0, vR v0), (1, vI v1)] [] h Q := by
  refine aw_aload_n 0 dX9_joinLine_13 rfl rfl ?_
  obtain ⟨o1, k⟩ := k
  refine aw_getR dX9_joinLine_14 fl_X9_17 rfl o1 (x := (h v0 1)) rfl ?_
  refine aw_iload_n 1 dX9_joinLine_17 rfl rfl ?_
  refine aw_callS (M' := mm_X9_firstEndOf) [vI v1] [vR (h v0 1)] lk_X9_154 dX9_joinLine_18 rfl (Nat.le_of_ble_eq_true rfl) ⟨by decide, by decide, Nat.zero_le _, Nat.zero_le _⟩ ?_
  exact k
set_option maxRecDepth 20000 in
theorem sg_X9_joinLine_21 {G : GG} {b : Nat × Nat} {Q : Option VV → Hp → Prop} {v0 v1 s0 s1 : Int} {h : Hp} (k : Runs G mm_X9_otherEnd [vI s0] h (fun r h' => AW G mm_X9_joinLine b 24 [(0, vR v0), (1, vI v1)] (r.toList ++ [vR s1]) h' Q)) : AW G mm_X9_joinLine b 21 [(0, vR v0), (1, vI v1)] [vI s0, vR s1] h Q := by
  refine aw_callS (M' := mm_X9_otherEnd) [vI s0] [vR s1] lk_X9_161 dX9_joinLine_21 rfl (Nat.le_of_ble_eq_true rfl) ⟨by decide, by decide, Nat.zero_le _, Nat.zero_le _⟩ ?_
  exact k
set_option maxRecDepth 20000 in
theorem sg_X9_joinLine_24 {G : GG} {b : Nat × Nat} {Q : Option VV → Hp → Prop} {v0 v1 s0 s1 : Int} {h : Hp} (k : (h s1 (-1) = 31) ∧ (0 ≤ s0) ∧ (s0 < h s1 (-2)) ∧ (h (h s1 s0) (-1) = 2) ∧ Runs G mm_X1_restart [vR (h s1 s0), vI 1] h (fun r h' => AW G mm_X9_joinLine b 29 [(0, vR v0), (1, vI v1)] (r.toList ++ []) h' Q)) : AW G mm_X9_joinLine b 24 [(0, vR v0), (1, vI v1)] [vI s0, vR s1] h Q := by
  obtain ⟨o1, k⟩ := k
  obtain ⟨o2, k⟩ := k
  obtain ⟨o3, k⟩ := k
  refine aw_aald 3 1 aq_1 dX9_joinLine_24 o1 o2 o3 (x := (h s1 s0)) rfl ?_
  refine aw_iconst dX9_joinLine_25 ⟨by decide, by decide⟩ ?_
  obtain ⟨o4, k⟩ := k
  refine aw_callV (M' := mm_X1_restart) 1 [vI 1] [] lk_X9_164 ⟨_, rfl, rfl⟩ dX9_joinLine_26 rfl (Nat.le_of_ble_eq_true rfl) ⟨by decide, by decide, Nat.zero_le _, Nat.zero_le _⟩ o4 ?_
  exact k
set_option maxRecDepth 20000 in
theorem sg_X9_joinLine_29 {G : GG} {b : Nat × Nat} {Q : Option VV → Hp → Prop} {v0 v1 : Int} {h : Hp} (k : (h v0 (-1) = 10) ∧ (h (h v0 2) (-1) = 8) ∧ Runs G mm_X7_clearLine [vR (h v0 2), vI v1] h (fun r h' => AW G mm_X9_joinLine b 37 [] (r.toList ++ []) h' Q)) : AW G mm_X9_joinLine b 29 [(0, vR v0), (1, vI v1)] [] h Q := by
  refine aw_aload_n 0 dX9_joinLine_29 rfl rfl ?_
  obtain ⟨o1, k⟩ := k
  refine aw_getR dX9_joinLine_30 fl_X9_24 rfl o1 (x := (h v0 2)) rfl ?_
  refine aw_iload_n 1 dX9_joinLine_33 rfl rfl ?_
  obtain ⟨o2, k⟩ := k
  refine aw_callV (M' := mm_X7_clearLine) 7 [vI v1] [] lk_X9_167 ⟨_, rfl, rfl⟩ dX9_joinLine_34 rfl (Nat.le_of_ble_eq_true rfl) ⟨by decide, by decide, Nat.zero_le _, Nat.zero_le _⟩ o2 ?_
  exact k.mono (fun _ _ z => aw_sub [] rfl z)
set_option maxRecDepth 20000 in
theorem sg_X9_joinLine_37 {G : GG} {b : Nat × Nat} {Q : Option VV → Hp → Prop} {h : Hp} (k : Q none h) : AW G mm_X9_joinLine b 37 [] [] h Q := by
  exact aw_vret dX9_joinLine_37 rfl k
