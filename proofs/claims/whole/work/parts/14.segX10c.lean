/-! printed by writeseg.py: segments of methods -/
set_option maxRecDepth 20000 in
theorem sg_X10_door_0 {G : GG} {b : Nat × Nat} {Q : Option VV → Hp → Prop} {v0 v1 v2 v3 : Int} {h : Hp} (k : ((¬ (0 ≤ v1 ∧ v1 ≤ 1)) → Q (some (vI (-1001))) h) ∧ ((0 ≤ v1 ∧ v1 ≤ 1) → ((0 ≤ v2 ∧ v2 ≤ 3) → ((0 ≤ v3 ∧ v3 ≤ 2) → (inI (4 * v1)) ∧ (inI ((4 * v1) + v2)) ∧ (h v0 (-1) = 11) ∧ (h (h v0 2) (-1) = 20) ∧ (0 ≤ ((4 * v1) + v2)) ∧ (((4 * v1) + v2) < h (h v0 2) (-2)) ∧ ((¬ (h (h v0 2) ((4 * v1) + v2)) = 0) → ((¬ v3 = 0) → ((¬ v3 = 1) → (h (h v0 3) (-1) = 20) ∧ (0 ≤ ((4 * v1) + v2)) ∧ (((4 * v1) + v2) < h (h v0 3) (-2)) ∧ Q (some (vI (h (h v0 3) ((4 * v1) + v2)))) h) ∧ ((v3 = 1) → (0 ≤ ((4 * v1) + v2)) ∧ (((4 * v1) + v2) < h (h v0 2) (-2)) ∧ Q (some (vI (h (h v0 2) ((4 * v1) + v2)))) h)) ∧ ((v3 = 0) → (h (h v0 1) (-1) = 20) ∧ (0 ≤ ((4 * v1) + v2)) ∧ (((4 * v1) + v2) < h (h v0 1) (-2)) ∧ Q (some (vI (h (h v0 1) ((4 * v1) + v2)))) h)) ∧ (((h (h v0 2) ((4 * v1) + v2)) = 0) → Q (some (vI (-1003))) h)) ∧ ((¬ (0 ≤ v3 ∧ v3 ≤ 2)) → Q (some (vI (-1002))) h)) ∧ ((¬ (0 ≤ v2 ∧ v2 ≤ 3)) → Q (some (vI (-1001))) h))) : AW G mm_X10_door b 0 [(0, vR v0), (1, vI v1), (2, vI v2), (3, vI v3)] [] h Q := by
  refine aw_iload_n 1 dX10_door_0 rfl rfl ?_
  refine aw_callS (M' := mm_X10_isHost) [vI v1] [] lk_X10_194 dX10_door_1 rfl (Nat.le_of_ble_eq_true rfl) ⟨by decide, by decide, Nat.zero_le _, Nat.zero_le _⟩ ?_
  refine pu_X10_isHost ?_
  refine aw_if_eq (tgt := 19) dX10_door_4 (by decide) (fun hc => ?_) (fun hc => ?_)
  · have k := k.1 (b2i_0.mp hc)
    refine aw_sipush dX10_door_19 ⟨by decide, by decide⟩ (by decide) ?_
    exact aw_iret dX10_door_22 rfl k
  · have k := k.2 (b2i_n.mp hc)
    refine aw_iload_n 2 dX10_door_7 rfl rfl ?_
    refine aw_i2l dX10_door_8 ?_
    refine aw_lconst (x := 0) dX10_door_9 ⟨by decide, by decide⟩ (by decide) ?_
    refine aw_ldc2 (x := 3) dX10_door_10 ⟨by decide, by decide⟩ cl_X10_101 ?_
    refine aw_callS (M' := mm_X10_in) [vL v2, vL 0, vL 3] [] lk_X10_95 dX10_door_13 rfl (Nat.le_of_ble_eq_true rfl) ⟨by decide, by decide, Nat.zero_le _, Nat.zero_le _⟩ ?_
    refine pu_X10_in ?_
    refine aw_if_ne (tgt := 23) dX10_door_16 (by decide) (fun hc => ?_) (fun hc => ?_)
    · have k := k.1 (b2i_n.mp hc)
      refine aw_iload_n 3 dX10_door_23 rfl rfl ?_
      refine aw_i2l dX10_door_24 ?_
      refine aw_lconst (x := 0) dX10_door_25 ⟨by decide, by decide⟩ (by decide) ?_
      refine aw_ldc2 (x := 2) dX10_door_26 ⟨by decide, by decide⟩ cl_X10_209 ?_
      refine aw_callS (M' := mm_X10_in) [vL v3, vL 0, vL 2] [] lk_X10_95 dX10_door_29 rfl (Nat.le_of_ble_eq_true rfl) ⟨by decide, by decide, Nat.zero_le _, Nat.zero_le _⟩ ?_
      refine pu_X10_in ?_
      refine aw_if_ne (tgt := 39) dX10_door_32 (by decide) (fun hc => ?_) (fun hc => ?_)
      · have k := k.1 (b2i_n.mp hc)
        refine aw_iconst dX10_door_39 ⟨by decide, by decide⟩ ?_
        refine aw_iload_n 1 dX10_door_40 rfl rfl ?_
        obtain ⟨o1, k⟩ := k
        refine aw_imul dX10_door_41 o1 ?_
        refine aw_iload_n 2 dX10_door_42 rfl rfl ?_
        obtain ⟨o2, k⟩ := k
        refine aw_iadd dX10_door_43 o2 ?_
        refine aw_istore dX10_door_44 (by decide) ?_
        refine aw_aload_n 1 dX10_door_46 rfl rfl ?_
        obtain ⟨o3, k⟩ := k
        refine aw_getR dX10_door_47 fl_X10_16 rfl o3 (x := (h v0 2)) rfl ?_
        refine aw_iload 0 dX10_door_50 rfl ?_
        obtain ⟨o4, k⟩ := k
        obtain ⟨o5, k⟩ := k
        obtain ⟨o6, k⟩ := k
        refine aw_iald dX10_door_52 o4 o5 o6 (x := (h (h v0 2) ((4 * v1) + v2))) rfl ?_
        refine aw_if_ne (tgt := 62) dX10_door_53 (by decide) (fun hc => ?_) (fun hc => ?_)
        · have k := k.1 hc
          refine aw_iload_n 4 dX10_door_62 rfl rfl ?_
          refine aw_if_ne (tgt := 76) dX10_door_63 (by decide) (fun hc => ?_) (fun hc => ?_)
          · have k := k.1 hc
            refine aw_iload_n 4 dX10_door_76 rfl rfl ?_
            refine aw_iconst dX10_door_77 ⟨by decide, by decide⟩ ?_
            refine aw_icmp_ne (tgt := 91) dX10_door_78 (by decide) (fun hc => ?_) (fun hc => ?_)
            · have k := k.1 hc
              refine aw_aload_n 1 dX10_door_91 rfl rfl ?_
              refine aw_getR dX10_door_92 fl_X10_19 rfl o3 (x := (h v0 3)) rfl ?_
              refine aw_iload 0 dX10_door_95 rfl ?_
              obtain ⟨o7, k⟩ := k
              obtain ⟨o8, k⟩ := k
              obtain ⟨o9, k⟩ := k
              refine aw_iald dX10_door_97 o7 o8 o9 (x := (h (h v0 3) ((4 * v1) + v2))) rfl ?_
              exact aw_iret dX10_door_98 rfl k
            · have k := k.2 hc
              refine aw_aload_n 1 dX10_door_81 rfl rfl ?_
              refine aw_getR dX10_door_82 fl_X10_16 rfl o3 (x := (h v0 2)) rfl ?_
              refine aw_iload 0 dX10_door_85 rfl ?_
              obtain ⟨o10, k⟩ := k
              obtain ⟨o11, k⟩ := k
              refine aw_iald dX10_door_87 o4 o10 o11 (x := (h (h v0 2) ((4 * v1) + v2))) rfl ?_
              refine aw_goto (tgt := 98) dX10_door_88 (by decide) ?_
              exact aw_iret dX10_door_98 rfl k
          · have k := k.2 hc
            refine aw_aload_n 1 dX10_door_66 rfl rfl ?_
            refine aw_getR dX10_door_67 fl_X10_13 rfl o3 (x := (h v0 1)) rfl ?_
            refine aw_iload 0 dX10_door_70 rfl ?_
            obtain ⟨o12, k⟩ := k
            obtain ⟨o13, k⟩ := k
            obtain ⟨o14, k⟩ := k
            refine aw_iald dX10_door_72 o12 o13 o14 (x := (h (h v0 1) ((4 * v1) + v2))) rfl ?_
            refine aw_goto (tgt := 98) dX10_door_73 (by decide) ?_
            exact aw_iret dX10_door_98 rfl k
        · have k := k.2 hc
          refine aw_sipush dX10_door_56 ⟨by decide, by decide⟩ (by decide) ?_
          refine aw_goto (tgt := 98) dX10_door_59 (by decide) ?_
          exact aw_iret dX10_door_98 rfl k
      · have k := k.2 (b2i_0.mp hc)
        refine aw_sipush dX10_door_35 ⟨by decide, by decide⟩ (by decide) ?_
        exact aw_iret dX10_door_38 rfl k
    · have k := k.2 (b2i_0.mp hc)
      refine aw_sipush dX10_door_19 ⟨by decide, by decide⟩ (by decide) ?_
      exact aw_iret dX10_door_22 rfl k
theorem rn_X10_door {G : GG} {Q : Option VV → Hp → Prop} {v0 v1 v2 v3 : Int} {h : Hp} (k : ((¬ (0 ≤ v1 ∧ v1 ≤ 1)) → Q (some (vI (-1001))) h) ∧ ((0 ≤ v1 ∧ v1 ≤ 1) → ((0 ≤ v2 ∧ v2 ≤ 3) → ((0 ≤ v3 ∧ v3 ≤ 2) → (inI (4 * v1)) ∧ (inI ((4 * v1) + v2)) ∧ (h v0 (-1) = 11) ∧ (h (h v0 2) (-1) = 20) ∧ (0 ≤ ((4 * v1) + v2)) ∧ (((4 * v1) + v2) < h (h v0 2) (-2)) ∧ ((¬ (h (h v0 2) ((4 * v1) + v2)) = 0) → ((¬ v3 = 0) → ((¬ v3 = 1) → (h (h v0 3) (-1) = 20) ∧ (0 ≤ ((4 * v1) + v2)) ∧ (((4 * v1) + v2) < h (h v0 3) (-2)) ∧ Q (some (vI (h (h v0 3) ((4 * v1) + v2)))) h) ∧ ((v3 = 1) → (0 ≤ ((4 * v1) + v2)) ∧ (((4 * v1) + v2) < h (h v0 2) (-2)) ∧ Q (some (vI (h (h v0 2) ((4 * v1) + v2)))) h)) ∧ ((v3 = 0) → (h (h v0 1) (-1) = 20) ∧ (0 ≤ ((4 * v1) + v2)) ∧ (((4 * v1) + v2) < h (h v0 1) (-2)) ∧ Q (some (vI (h (h v0 1) ((4 * v1) + v2)))) h)) ∧ (((h (h v0 2) ((4 * v1) + v2)) = 0) → Q (some (vI (-1003))) h)) ∧ ((¬ (0 ≤ v3 ∧ v3 ≤ 2)) → Q (some (vI (-1002))) h)) ∧ ((¬ (0 ≤ v2 ∧ v2 ≤ 3)) → Q (some (vI (-1001))) h))) : Runs G mm_X10_door [vR v0, vI v1, vI v2, vI v3] h Q := Runs.of (by decide +kernel) (Nat.le_of_ble_eq_true rfl) (sg_X10_door_0 (b := (0, 0)) k)
set_option maxRecDepth 20000 in
theorem sg_X10_end_0 {G : GG} {b : Nat × Nat} {Q : Option VV → Hp → Prop} {v0 v1 v2 : Int} {h : Hp} (k : ((0 ≤ v1 ∧ v1 ≤ 3) → ((v2 = 0) → (h v0 (-1) = 11) ∧ (h (h v0 4) (-1) = 20) ∧ (0 ≤ v1) ∧ (v1 < h (h v0 4) (-2)) ∧ Q (some (vI (h (h v0 4) v1))) h) ∧ ((v2 = 1) → (h v0 (-1) = 11) ∧ (h (h v0 5) (-1) = 20) ∧ (0 ≤ v1) ∧ (v1 < h (h v0 5) (-2)) ∧ Q (some (vI (h (h v0 5) v1))) h) ∧ ((v2 = 2) → (h v0 (-1) = 11) ∧ (h (h v0 6) (-1) = 20) ∧ (0 ≤ v1) ∧ (v1 < h (h v0 6) (-2)) ∧ Q (some (vI (h (h v0 6) v1))) h) ∧ ((v2 = 3) → (h v0 (-1) = 11) ∧ (h (h v0 8) (-1) = 20) ∧ (0 ≤ v1) ∧ (v1 < h (h v0 8) (-2)) ∧ Q (some (vI (h (h v0 8) v1))) h) ∧ ((v2 = 4) → (h v0 (-1) = 11) ∧ (h (h v0 9) (-1) = 20) ∧ (0 ≤ v1) ∧ (v1 < h (h v0 9) (-2)) ∧ Q (some (vI (h (h v0 9) v1))) h) ∧ ((v2 = 5) → (h v0 (-1) = 11) ∧ (h (h v0 11) (-1) = 20) ∧ (0 ≤ v1) ∧ (v1 < h (h v0 11) (-2)) ∧ Q (some (vI (h (h v0 11) v1))) h) ∧ ((v2 = 6) → (h v0 (-1) = 11) ∧ (h (h v0 12) (-1) = 20) ∧ (0 ≤ v1) ∧ (v1 < h (h v0 12) (-2)) ∧ Q (some (vI (h (h v0 12) v1))) h) ∧ ((v2 = 7) → (h v0 (-1) = 11) ∧ (h (h v0 13) (-1) = 21) ∧ (0 ≤ v1) ∧ (v1 < h (h v0 13) (-2)) ∧ (((h (h v0 13) v1) = 0) → Q (some (vI 0)) h) ∧ ((¬ ((h (h v0 13) v1) = 0)) → Q (some (vI 1)) h)) ∧ ((v2 = 8) → (h v0 (-1) = 11) ∧ (h (h v0 14) (-1) = 20) ∧ (0 ≤ v1) ∧ (v1 < h (h v0 14) (-2)) ∧ Q (some (vI (h (h v0 14) v1))) h) ∧ ((v2 = 9) → (h v0 (-1) = 11) ∧ (h (h v0 16) (-1) = 20) ∧ (0 ≤ v1) ∧ (v1 < h (h v0 16) (-2)) ∧ Q (some (vI (h (h v0 16) v1))) h) ∧ ((v2 = 10) → (h v0 (-1) = 11) ∧ (h (h v0 17) (-1) = 20) ∧ (0 ≤ v1) ∧ (v1 < h (h v0 17) (-2)) ∧ Q (some (vI (h (h v0 17) v1))) h) ∧ ((v2 < 0 ∨ 10 < v2) → Q (some (vI (-1002))) h)) ∧ ((¬ (0 ≤ v1 ∧ v1 ≤ 3)) → Q (some (vI (-1001))) h)) : AW G mm_X10_end b 0 [(0, vR v0), (1, vI v1), (2, vI v2)] [] h Q := by
  refine aw_iload_n 1 dX10_end_0 rfl rfl ?_
  refine aw_callS (M' := mm_X10_isEnd) [vI v1] [] lk_X10_220 dX10_end_1 rfl (Nat.le_of_ble_eq_true rfl) ⟨by decide, by decide, Nat.zero_le _, Nat.zero_le _⟩ ?_
  refine pu_X10_isEnd ?_
  refine aw_if_ne (tgt := 11) dX10_end_4 (by decide) (fun hc => ?_) (fun hc => ?_)
  · have k := k.1 (b2i_n.mp hc)
    refine aw_iload_n 2 dX10_end_11 rfl rfl ?_
    rcases (show v2 = 0 ∨ v2 = 1 ∨ v2 = 2 ∨ v2 = 3 ∨ v2 = 4 ∨ v2 = 5 ∨ v2 = 6 ∨ v2 = 7 ∨ v2 = 8 ∨ v2 = 9 ∨ v2 = 10 ∨ (v2 < 0 ∨ 10 < v2) by omega) with hc | hc | hc | hc | hc | hc | hc | hc | hc | hc | hc | hc
    · have k := k.1 hc
      refine aw_tableIn (tgt := 72) dX10_end_12 (by omega) (by omega) (by rw [hc]; rfl) (by decide) ?_
      refine aw_aload_n 0 dX10_end_72 rfl rfl ?_
      obtain ⟨o1, k⟩ := k
      refine aw_getR dX10_end_73 fl_X10_22 rfl o1 (x := (h v0 4)) rfl ?_
      refine aw_iload_n 1 dX10_end_76 rfl rfl ?_
      obtain ⟨o2, k⟩ := k
      obtain ⟨o3, k⟩ := k
      obtain ⟨o4, k⟩ := k
      refine aw_iald dX10_end_77 o2 o3 o4 (x := (h (h v0 4) v1)) rfl ?_
      exact aw_iret dX10_end_78 rfl k
    · have k := k.2.1 hc
      refine aw_tableIn (tgt := 79) dX10_end_12 (by omega) (by omega) (by rw [hc]; rfl) (by decide) ?_
      refine aw_aload_n 0 dX10_end_79 rfl rfl ?_
      obtain ⟨o5, k⟩ := k
      refine aw_getR dX10_end_80 fl_X10_25 rfl o5 (x := (h v0 5)) rfl ?_
      refine aw_iload_n 1 dX10_end_83 rfl rfl ?_
      obtain ⟨o6, k⟩ := k
      obtain ⟨o7, k⟩ := k
      obtain ⟨o8, k⟩ := k
      refine aw_iald dX10_end_84 o6 o7 o8 (x := (h (h v0 5) v1)) rfl ?_
      exact aw_iret dX10_end_85 rfl k
    · have k := k.2.2.1 hc
      refine aw_tableIn (tgt := 86) dX10_end_12 (by omega) (by omega) (by rw [hc]; rfl) (by decide) ?_
      refine aw_aload_n 0 dX10_end_86 rfl rfl ?_
      obtain ⟨o9, k⟩ := k
      refine aw_getR dX10_end_87 fl_X10_28 rfl o9 (x := (h v0 6)) rfl ?_
      refine aw_iload_n 1 dX10_end_90 rfl rfl ?_
      obtain ⟨o10, k⟩ := k
      obtain ⟨o11, k⟩ := k
      obtain ⟨o12, k⟩ := k
      refine aw_iald dX10_end_91 o10 o11 o12 (x := (h (h v0 6) v1)) rfl ?_
      exact aw_iret dX10_end_92 rfl k
    · have k := k.2.2.2.1 hc
      refine aw_tableIn (tgt := 93) dX10_end_12 (by omega) (by omega) (by rw [hc]; rfl) (by decide) ?_
      refine aw_aload_n 0 dX10_end_93 rfl rfl ?_
      obtain ⟨o13, k⟩ := k
      refine aw_getR dX10_end_94 fl_X10_34 rfl o13 (x := (h v0 8)) rfl ?_
      refine aw_iload_n 1 dX10_end_97 rfl rfl ?_
      obtain ⟨o14, k⟩ := k
      obtain ⟨o15, k⟩ := k
      obtain ⟨o16, k⟩ := k
      refine aw_iald dX10_end_98 o14 o15 o16 (x := (h (h v0 8) v1)) rfl ?_
      exact aw_iret dX10_end_99 rfl k
    · have k := k.2.2.2.2.1 hc
      refine aw_tableIn (tgt := 100) dX10_end_12 (by omega) (by omega) (by rw [hc]; rfl) (by decide) ?_
      refine aw_aload_n 0 dX10_end_100 rfl rfl ?_
      obtain ⟨o17, k⟩ := k
      refine aw_getR dX10_end_101 fl_X10_37 rfl o17 (x := (h v0 9)) rfl ?_
      refine aw_iload_n 1 dX10_end_104 rfl rfl ?_
      obtain ⟨o18, k⟩ := k
      obtain ⟨o19, k⟩ := k
      obtain ⟨o20, k⟩ := k
      refine aw_iald dX10_end_105 o18 o19 o20 (x := (h (h v0 9) v1)) rfl ?_
      exact aw_iret dX10_end_106 rfl k
    · have k := k.2.2.2.2.2.1 hc
      refine aw_tableIn (tgt := 107) dX10_end_12 (by omega) (by omega) (by rw [hc]; rfl) (by decide) ?_
      refine aw_aload_n 0 dX10_end_107 rfl rfl ?_
      obtain ⟨o21, k⟩ := k
      refine aw_getR dX10_end_108 fl_X10_43 rfl o21 (x := (h v0 11)) rfl ?_
      refine aw_iload_n 1 dX10_end_111 rfl rfl ?_
      obtain ⟨o22, k⟩ := k
      obtain ⟨o23, k⟩ := k
      obtain ⟨o24, k⟩ := k
      refine aw_iald dX10_end_112 o22 o23 o24 (x := (h (h v0 11) v1)) rfl ?_
      exact aw_iret dX10_end_113 rfl k
    · have k := k.2.2.2.2.2.2.1 hc
      refine aw_tableIn (tgt := 114) dX10_end_12 (by omega) (by omega) (by rw [hc]; rfl) (by decide) ?_
      refine aw_aload_n 0 dX10_end_114 rfl rfl ?_
      obtain ⟨o25, k⟩ := k
      refine aw_getR dX10_end_115 fl_X10_46 rfl o25 (x := (h v0 12)) rfl ?_
      refine aw_iload_n 1 dX10_end_118 rfl rfl ?_
      obtain ⟨o26, k⟩ := k
      obtain ⟨o27, k⟩ := k
      obtain ⟨o28, k⟩ := k
      refine aw_iald dX10_end_119 o26 o27 o28 (x := (h (h v0 12) v1)) rfl ?_
      exact aw_iret dX10_end_120 rfl k
    · have k := k.2.2.2.2.2.2.2.1 hc
      refine aw_tableIn (tgt := 121) dX10_end_12 (by omega) (by omega) (by rw [hc]; rfl) (by decide) ?_
      refine aw_aload_n 0 dX10_end_121 rfl rfl ?_
      obtain ⟨o29, k⟩ := k
      refine aw_getR dX10_end_122 fl_X10_49 rfl o29 (x := (h v0 13)) rfl ?_
      refine aw_iload_n 1 dX10_end_125 rfl rfl ?_
      obtain ⟨o30, k⟩ := k
      obtain ⟨o31, k⟩ := k
      obtain ⟨o32, k⟩ := k
      refine aw_zald dX10_end_126 o30 o31 o32 (x := (h (h v0 13) v1)) rfl ?_
      refine aw_if_eq (tgt := 134) dX10_end_127 (by decide) (fun hc => ?_) (fun hc => ?_)
      · have k := k.1 hc
        refine aw_iconst dX10_end_134 ⟨by decide, by decide⟩ ?_
        exact aw_iret dX10_end_135 rfl k
      · have k := k.2 hc
        refine aw_iconst dX10_end_130 ⟨by decide, by decide⟩ ?_
        refine aw_goto (tgt := 135) dX10_end_131 (by decide) ?_
        exact aw_iret dX10_end_135 rfl k
    · have k := k.2.2.2.2.2.2.2.2.1 hc
      refine aw_tableIn (tgt := 136) dX10_end_12 (by omega) (by omega) (by rw [hc]; rfl) (by decide) ?_
      refine aw_aload_n 0 dX10_end_136 rfl rfl ?_
      obtain ⟨o33, k⟩ := k
      refine aw_getR dX10_end_137 fl_X10_53 rfl o33 (x := (h v0 14)) rfl ?_
      refine aw_iload_n 1 dX10_end_140 rfl rfl ?_
      obtain ⟨o34, k⟩ := k
      obtain ⟨o35, k⟩ := k
      obtain ⟨o36, k⟩ := k
      refine aw_iald dX10_end_141 o34 o35 o36 (x := (h (h v0 14) v1)) rfl ?_
      exact aw_iret dX10_end_142 rfl k
    · have k := k.2.2.2.2.2.2.2.2.2.1 hc
      refine aw_tableIn (tgt := 143) dX10_end_12 (by omega) (by omega) (by rw [hc]; rfl) (by decide) ?_
      refine aw_aload_n 0 dX10_end_143 rfl rfl ?_
      obtain ⟨o37, k⟩ := k
      refine aw_getR dX10_end_144 fl_X10_59 rfl o37 (x := (h v0 16)) rfl ?_
      refine aw_iload_n 1 dX10_end_147 rfl rfl ?_
      obtain ⟨o38, k⟩ := k
      obtain ⟨o39, k⟩ := k
      obtain ⟨o40, k⟩ := k
      refine aw_iald dX10_end_148 o38 o39 o40 (x := (h (h v0 16) v1)) rfl ?_
      exact aw_iret dX10_end_149 rfl k
    · have k := k.2.2.2.2.2.2.2.2.2.2.1 hc
      refine aw_tableIn (tgt := 150) dX10_end_12 (by omega) (by omega) (by rw [hc]; rfl) (by decide) ?_
      refine aw_aload_n 0 dX10_end_150 rfl rfl ?_
      obtain ⟨o41, k⟩ := k
      refine aw_getR dX10_end_151 fl_X10_62 rfl o41 (x := (h v0 17)) rfl ?_
      refine aw_iload_n 1 dX10_end_154 rfl rfl ?_
      obtain ⟨o42, k⟩ := k
      obtain ⟨o43, k⟩ := k
      obtain ⟨o44, k⟩ := k
      refine aw_iald dX10_end_155 o42 o43 o44 (x := (h (h v0 17) v1)) rfl ?_
      exact aw_iret dX10_end_156 rfl k
    · have k := k.2.2.2.2.2.2.2.2.2.2.2 hc
      refine aw_tableOut (tgt := 157) dX10_end_12 hc (by decide) ?_
      refine aw_sipush dX10_end_157 ⟨by decide, by decide⟩ (by decide) ?_
      exact aw_iret dX10_end_160 rfl k
  · have k := k.2 (b2i_0.mp hc)
    refine aw_sipush dX10_end_7 ⟨by decide, by decide⟩ (by decide) ?_
    exact aw_iret dX10_end_10 rfl k
theorem rn_X10_end {G : GG} {Q : Option VV → Hp → Prop} {v0 v1 v2 : Int} {h : Hp} (k : ((0 ≤ v1 ∧ v1 ≤ 3) → ((v2 = 0) → (h v0 (-1) = 11) ∧ (h (h v0 4) (-1) = 20) ∧ (0 ≤ v1) ∧ (v1 < h (h v0 4) (-2)) ∧ Q (some (vI (h (h v0 4) v1))) h) ∧ ((v2 = 1) → (h v0 (-1) = 11) ∧ (h (h v0 5) (-1) = 20) ∧ (0 ≤ v1) ∧ (v1 < h (h v0 5) (-2)) ∧ Q (some (vI (h (h v0 5) v1))) h) ∧ ((v2 = 2) → (h v0 (-1) = 11) ∧ (h (h v0 6) (-1) = 20) ∧ (0 ≤ v1) ∧ (v1 < h (h v0 6) (-2)) ∧ Q (some (vI (h (h v0 6) v1))) h) ∧ ((v2 = 3) → (h v0 (-1) = 11) ∧ (h (h v0 8) (-1) = 20) ∧ (0 ≤ v1) ∧ (v1 < h (h v0 8) (-2)) ∧ Q (some (vI (h (h v0 8) v1))) h) ∧ ((v2 = 4) → (h v0 (-1) = 11) ∧ (h (h v0 9) (-1) = 20) ∧ (0 ≤ v1) ∧ (v1 < h (h v0 9) (-2)) ∧ Q (some (vI (h (h v0 9) v1))) h) ∧ ((v2 = 5) → (h v0 (-1) = 11) ∧ (h (h v0 11) (-1) = 20) ∧ (0 ≤ v1) ∧ (v1 < h (h v0 11) (-2)) ∧ Q (some (vI (h (h v0 11) v1))) h) ∧ ((v2 = 6) → (h v0 (-1) = 11) ∧ (h (h v0 12) (-1) = 20) ∧ (0 ≤ v1) ∧ (v1 < h (h v0 12) (-2)) ∧ Q (some (vI (h (h v0 12) v1))) h) ∧ ((v2 = 7) → (h v0 (-1) = 11) ∧ (h (h v0 13) (-1) = 21) ∧ (0 ≤ v1) ∧ (v1 < h (h v0 13) (-2)) ∧ (((h (h v0 13) v1) = 0) → Q (some (vI 0)) h) ∧ ((¬ ((h (h v0 13) v1) = 0)) → Q (some (vI 1)) h)) ∧ ((v2 = 8) → (h v0 (-1) = 11) ∧ (h (h v0 14) (-1) = 20) ∧ (0 ≤ v1) ∧ (v1 < h (h v0 14) (-2)) ∧ Q (some (vI (h (h v0 14) v1))) h) ∧ ((v2 = 9) → (h v0 (-1) = 11) ∧ (h (h v0 16) (-1) = 20) ∧ (0 ≤ v1) ∧ (v1 < h (h v0 16) (-2)) ∧ Q (some (vI (h (h v0 16) v1))) h) ∧ ((v2 = 10) → (h v0 (-1) = 11) ∧ (h (h v0 17) (-1) = 20) ∧ (0 ≤ v1) ∧ (v1 < h (h v0 17) (-2)) ∧ Q (some (vI (h (h v0 17) v1))) h) ∧ ((v2 < 0 ∨ 10 < v2) → Q (some (vI (-1002))) h)) ∧ ((¬ (0 ≤ v1 ∧ v1 ≤ 3)) → Q (some (vI (-1001))) h)) : Runs G mm_X10_end [vR v0, vI v1, vI v2] h Q := Runs.of (by decide +kernel) (Nat.le_of_ble_eq_true rfl) (sg_X10_end_0 (b := (0, 0)) k)
set_option maxRecDepth 20000 in
theorem sg_X10_endAnew_0 {G : GG} {b : Nat × Nat} {Q : Option VV → Hp → Prop} {v0 v1 v2 : Int} {h : Hp} (k : (h v0 (-1) = 11) ∧ (h (h v0 4) (-1) = 20) ∧ (0 ≤ v1) ∧ (v1 < h (h v0 4) (-2)) ∧ ∀ h1, h1 = wr h (h v0 4) v1 v2 → (h (h v0 5) (-1) = 20) ∧ (0 ≤ v1) ∧ (v1 < h (h v0 5) (-2)) ∧ ∀ h2, h2 = wr h1 (h v0 5) v1 0 → (h (h v0 6) (-1) = 20) ∧ (0 ≤ v1) ∧ (v1 < h (h v0 6) (-2)) ∧ ∀ h3, h3 = wr h2 (h v0 6) v1 0 → (h (h v0 8) (-1) = 20) ∧ (0 ≤ v1) ∧ (v1 < h (h v0 8) (-2)) ∧ ∀ h4, h4 = wr h3 (h v0 8) v1 0 → (h (h v0 9) (-1) = 20) ∧ (0 ≤ v1) ∧ (v1 < h (h v0 9) (-2)) ∧ ∀ h5, h5 = wr h4 (h v0 9) v1 0 → (h (h v0 11) (-1) = 20) ∧ (0 ≤ v1) ∧ (v1 < h (h v0 11) (-2)) ∧ ∀ h6, h6 = wr h5 (h v0 11) v1 0 → (h (h v0 12) (-1) = 20) ∧ (0 ≤ v1) ∧ (v1 < h (h v0 12) (-2)) ∧ ∀ h7, h7 = wr h6 (h v0 12) v1 0 → (h (h v0 13) (-1) = 21) ∧ (0 ≤ v1) ∧ (v1 < h (h v0 13) (-2)) ∧ ∀ h8, h8 = wr h7 (h v0 13) v1 0 → (h (h v0 14) (-1) = 20) ∧ (0 ≤ v1) ∧ (v1 < h (h v0 14) (-2)) ∧ ∀ h9, h9 = wr h8 (h v0 14) v1 0 → Q none h9) : AW G mm_X10_endAnew b 0 [(0, vR v0), (1, vI v1), (2, vI v2)] [] h Q := by
  refine aw_aload_n 0 dX10_endAnew_0 rfl rfl ?_
  obtain ⟨o1, k⟩ := k
  refine aw_getR dX10_endAnew_1 fl_X10_22 rfl o1 (x := (h v0 4)) rfl ?_
  refine aw_iload_n 1 dX10_endAnew_4 rfl rfl ?_
  refine aw_iload_n 2 dX10_endAnew_5 rfl rfl ?_
  obtain ⟨o2, k⟩ := k
  obtain ⟨o3, k⟩ := k
  obtain ⟨o4, k⟩ := k
  refine aw_iast dX10_endAnew_6 o2 o3 o4 ?_
  refine aw_hp (fun h1 e5 => ?_)
  have k := k h1 e5
  refine aw_aload_n 0 dX10_endAnew_7 rfl rfl ?_
  have q6 := sh_w e5 o3 o1
  refine aw_getR dX10_endAnew_8 fl_X10_25 rfl q6 (x := (h v0 5)) (rd_a e5 v0 5 (ne_sh o2 o1 (by decide))) ?_
  refine aw_iload_n 1 dX10_endAnew_11 rfl rfl ?_
  refine aw_iconst dX10_endAnew_12 ⟨by decide, by decide⟩ ?_
  obtain ⟨o7, k⟩ := k
  obtain ⟨o8, k⟩ := k
  obtain ⟨o9, k⟩ := k
  have q10 := sh_w e5 o3 o7
  refine aw_iast dX10_endAnew_13 q10 o8 (lt_l (ln_w e5 (h v0 5) o3) o9) ?_
  refine aw_hp (fun h2 e11 => ?_)
  have k := k h2 e11
  refine aw_aload_n 0 dX10_endAnew_14 rfl rfl ?_
  have q12 := sh_w e11 o8 q6
  refine aw_getR dX10_endAnew_15 fl_X10_28 rfl q12 (x := (h v0 6)) ((rd_a e11 v0 6 (ne_sh q10 q6 (by decide))).trans (rd_a e5 v0 6 (ne_sh o2 o1 (by decide)))) ?_
  refine aw_iload_n 1 dX10_endAnew_18 rfl rfl ?_
  refine aw_iconst dX10_endAnew_19 ⟨by decide, by decide⟩ ?_
  obtain ⟨o13, k⟩ := k
  obtain ⟨o14, k⟩ := k
  obtain ⟨o15, k⟩ := k
  have q16 := sh_w e5 o3 o13
  have q17 := sh_w e11 o8 q16
  refine aw_iast dX10_endAnew_20 q17 o14 (lt_l ((ln_w e11 (h v0 6) o8).trans (ln_w e5 (h v0 6) o3)) o15) ?_
  refine aw_hp (fun h3 e18 => ?_)
  have k := k h3 e18
  refine aw_aload_n 0 dX10_endAnew_21 rfl rfl ?_
  have q19 := sh_w e18 o14 q12
  refine aw_getR dX10_endAnew_22 fl_X10_34 rfl q19 (x := (h v0 8)) ((rd_a e18 v0 8 (ne_sh q17 q12 (by decide))).trans ((rd_a e11 v0 8 (ne_sh q10 q6 (by decide))).trans (rd_a e5 v0 8 (ne_sh o2 o1 (by decide))))) ?_
  refine aw_iload_n 1 dX10_endAnew_25 rfl rfl ?_
  refine aw_iconst dX10_endAnew_26 ⟨by decide, by decide⟩ ?_
  obtain ⟨o20, k⟩ := k
  obtain ⟨o21, k⟩ := k
  obtain ⟨o22, k⟩ := k
  have q23 := sh_w e5 o3 o20
  have q24 := sh_w e11 o8 q23
  have q25 := sh_w e18 o14 q24
  refine aw_iast dX10_endAnew_27 q25 o21 (lt_l ((ln_w e18 (h v0 8) o14).trans ((ln_w e11 (h v0 8) o8).trans (ln_w e5 (h v0 8) o3))) o22) ?_
  refine aw_hp (fun h4 e26 => ?_)
  have k := k h4 e26
  refine aw_aload_n 0 dX10_endAnew_28 rfl rfl ?_
  have q27 := sh_w e26 o21 q19
  refine aw_getR dX10_endAnew_29 fl_X10_37 rfl q27 (x := (h v0 9)) ((rd_a e26 v0 9 (ne_sh q25 q19 (by decide))).trans ((rd_a e18 v0 9 (ne_sh q17 q12 (by decide))).trans ((rd_a e11 v0 9 (ne_sh q10 q6 (by decide))).trans (rd_a e5 v0 9 (ne_sh o2 o1 (by decide)))))) ?_
  refine aw_iload_n 1 dX10_endAnew_32 rfl rfl ?_
  refine aw_iconst dX10_endAnew_33 ⟨by decide, by decide⟩ ?_
  obtain ⟨o28, k⟩ := k
  obtain ⟨o29, k⟩ := k
  obtain ⟨o30, k⟩ := k
  have q31 := sh_w e5 o3 o28
  have q32 := sh_w e11 o8 q31
  have q33 := sh_w e18 o14 q32
  have q34 := sh_w e26 o21 q33
  refine aw_iast dX10_endAnew_34 q34 o29 (lt_l ((ln_w e26 (h v0 9) o21).trans ((ln_w e18 (h v0 9) o14).trans ((ln_w e11 (h v0 9) o8).trans (ln_w e5 (h v0 9) o3)))) o30) ?_
  refine aw_hp (fun h5 e35 => ?_)
  have k := k h5 e35
  refine aw_aload_n 0 dX10_endAnew_35 rfl rfl ?_
  have q36 := sh_w e35 o29 q27
  refine aw_getR dX10_endAnew_36 fl_X10_43 rfl q36 (x := (h v0 11)) ((rd_a e35 v0 11 (ne_sh q34 q27 (by decide))).trans ((rd_a e26 v0 11 (ne_sh q25 q19 (by decide))).trans ((rd_a e18 v0 11 (ne_sh q17 q12 (by decide))).trans ((rd_a e11 v0 11 (ne_sh q10 q6 (by decide))).trans (rd_a e5 v0 11 (ne_sh o2 o1 (by decide))))))) ?_
  refine aw_iload_n 1 dX10_endAnew_39 rfl rfl ?_
  refine aw_iconst dX10_endAnew_40 ⟨by decide, by decide⟩ ?_
  obtain ⟨o37, k⟩ := k
  obtain ⟨o38, k⟩ := k
  obtain ⟨o39, k⟩ := k
  have q40 := sh_w e5 o3 o37
  have q41 := sh_w e11 o8 q40
  have q42 := sh_w e18 o14 q41
  have q43 := sh_w e26 o21 q42
  have q44 := sh_w e35 o29 q43
  refine aw_iast dX10_endAnew_41 q44 o38 (lt_l ((ln_w e35 (h v0 11) o29).trans ((ln_w e26 (h v0 11) o21).trans ((ln_w e18 (h v0 11) o14).trans ((ln_w e11 (h v0 11) o8).trans (ln_w e5 (h v0 11) o3))))) o39) ?_
  refine aw_hp (fun h6 e45 => ?_)
  have k := k h6 e45
  refine aw_aload_n 0 dX10_endAnew_42 rfl rfl ?_
  have q46 := sh_w e45 o38 q36
  refine aw_getR dX10_endAnew_43 fl_X10_46 rfl q46 (x := (h v0 12)) ((rd_a e45 v0 12 (ne_sh q44 q36 (by decide))).trans ((rd_a e35 v0 12 (ne_sh q34 q27 (by decide))).trans ((rd_a e26 v0 12 (ne_sh q25 q19 (by decide))).trans ((rd_a e18 v0 12 (ne_sh q17 q12 (by decide))).trans ((rd_a e11 v0 12 (ne_sh q10 q6 (by decide))).trans (rd_a e5 v0 12 (ne_sh o2 o1 (by decide)))))))) ?_
  refine aw_iload_n 1 dX10_endAnew_46 rfl rfl ?_
  refine aw_iconst dX10_endAnew_47 ⟨by decide, by decide⟩ ?_
  obtain ⟨o47, k⟩ := k
  obtain ⟨o48, k⟩ := k
  obtain ⟨o49, k⟩ := k
  have q50 := sh_w e5 o3 o47
  have q51 := sh_w e11 o8 q50
  have q52 := sh_w e18 o14 q51
  have q53 := sh_w e26 o21 q52
  have q54 := sh_w e35 o29 q53
  have q55 := sh_w e45 o38 q54
  refine aw_iast dX10_endAnew_48 q55 o48 (lt_l ((ln_w e45 (h v0 12) o38).trans ((ln_w e35 (h v0 12) o29).trans ((ln_w e26 (h v0 12) o21).trans ((ln_w e18 (h v0 12) o14).trans ((ln_w e11 (h v0 12) o8).trans (ln_w e5 (h v0 12) o3)))))) o49) ?_
  refine aw_hp (fun h7 e56 => ?_)
  have k := k h7 e56
  refine aw_aload_n 0 dX10_endAnew_49 rfl rfl ?_
  have q57 := sh_w e56 o48 q46
  refine aw_getR dX10_endAnew_50 fl_X10_49 rfl q57 (x := (h v0 13)) ((rd_a e56 v0 13 (ne_sh q55 q46 (by decide))).trans ((rd_a e45 v0 13 (ne_sh q44 q36 (by decide))).trans ((rd_a e35 v0 13 (ne_sh q34 q27 (by decide))).trans ((rd_a e26 v0 13 (ne_sh q25 q19 (by decide))).trans ((rd_a e18 v0 13 (ne_sh q17 q12 (by decide))).trans ((rd_a e11 v0 13 (ne_sh q10 q6 (by decide))).trans (rd_a e5 v0 13 (ne_sh o2 o1 (by decide))))))))) ?_
  refine aw_iload_n 1 dX10_endAnew_53 rfl rfl ?_
  refine aw_iconst dX10_endAnew_54 ⟨by decide, by decide⟩ ?_
  obtain ⟨o58, k⟩ := k
  obtain ⟨o59, k⟩ := k
  obtain ⟨o60, k⟩ := k
  have q61 := sh_w e5 o3 o58
  have q62 := sh_w e11 o8 q61
  have q63 := sh_w e18 o14 q62
  have q64 := sh_w e26 o21 q63
  have q65 := sh_w e35 o29 q64
  have q66 := sh_w e45 o38 q65
  have q67 := sh_w e56 o48 q66
  refine aw_zast dX10_endAnew_55 q67 o59 (lt_l ((ln_w e56 (h v0 13) o48).trans ((ln_w e45 (h v0 13) o38).trans ((ln_w e35 (h v0 13) o29).trans ((ln_w e26 (h v0 13) o21).trans ((ln_w e18 (h v0 13) o14).trans ((ln_w e11 (h v0 13) o8).trans (ln_w e5 (h v0 13) o3))))))) o60) (by decide) ?_
  refine aw_hp (fun h8 e68 => ?_)
  have k := k h8 e68
  refine aw_aload_n 0 dX10_endAnew_56 rfl rfl ?_
  have q69 := sh_w e68 o59 q57
  refine aw_getR dX10_endAnew_57 fl_X10_53 rfl q69 (x := (h v0 14)) ((rd_a e68 v0 14 (ne_sh q67 q57 (by decide))).trans ((rd_a e56 v0 14 (ne_sh q55 q46 (by decide))).trans ((rd_a e45 v0 14 (ne_sh q44 q36 (by decide))).trans ((rd_a e35 v0 14 (ne_sh q34 q27 (by decide))).trans ((rd_a e26 v0 14 (ne_sh q25 q19 (by decide))).trans ((rd_a e18 v0 14 (ne_sh q17 q12 (by decide))).trans ((rd_a e11 v0 14 (ne_sh q10 q6 (by decide))).trans (rd_a e5 v0 14 (ne_sh o2 o1 (by decide)))))))))) ?_
  refine aw_iload_n 1 dX10_endAnew_60 rfl rfl ?_
  refine aw_iconst dX10_endAnew_61 ⟨by decide, by decide⟩ ?_
  obtain ⟨o70, k⟩ := k
  obtain ⟨o71, k⟩ := k
  obtain ⟨o72, k⟩ := k
  have q73 := sh_w e5 o3 o70
  have q74 := sh_w e11 o8 q73
  have q75 := sh_w e18 o14 q74
  have q76 := sh_w e26 o21 q75
  have q77 := sh_w e35 o29 q76
  have q78 := sh_w e45 o38 q77
  have q79 := sh_w e56 o48 q78
  have q80 := sh_w e68 o59 q79
  refine aw_iast dX10_endAnew_62 q80 o71 (lt_l ((ln_w e68 (h v0 14) o59).trans ((ln_w e56 (h v0 14) o48).trans ((ln_w e45 (h v0 14) o38).trans ((ln_w e35 (h v0 14) o29).trans ((ln_w e26 (h v0 14) o21).trans ((ln_w e18 (h v0 14) o14).trans ((ln_w e11 (h v0 14) o8).trans (ln_w e5 (h v0 14) o3)))))))) o72) ?_
  refine aw_hp (fun h9 e81 => ?_)
  have k := k h9 e81
  exact aw_vret dX10_endAnew_63 rfl k
theorem rn_X10_endAnew {G : GG} {Q : Option VV → Hp → Prop} {v0 v1 v2 : Int} {h : Hp} (k : (h v0 (-1) = 11) ∧ (h (h v0 4) (-1) = 20) ∧ (0 ≤ v1) ∧ (v1 < h (h v0 4) (-2)) ∧ ∀ h1, h1 = wr h (h v0 4) v1 v2 → (h (h v0 5) (-1) = 20) ∧ (0 ≤ v1) ∧ (v1 < h (h v0 5) (-2)) ∧ ∀ h2, h2 = wr h1 (h v0 5) v1 0 → (h (h v0 6) (-1) = 20) ∧ (0 ≤ v1) ∧ (v1 < h (h v0 6) (-2)) ∧ ∀ h3, h3 = wr h2 (h v0 6) v1 0 → (h (h v0 8) (-1) = 20) ∧ (0 ≤ v1) ∧ (v1 < h (h v0 8) (-2)) ∧ ∀ h4, h4 = wr h3 (h v0 8) v1 0 → (h (h v0 9) (-1) = 20) ∧ (0 ≤ v1) ∧ (v1 < h (h v0 9) (-2)) ∧ ∀ h5, h5 = wr h4 (h v0 9) v1 0 → (h (h v0 11) (-1) = 20) ∧ (0 ≤ v1) ∧ (v1 < h (h v0 11) (-2)) ∧ ∀ h6, h6 = wr h5 (h v0 11) v1 0 → (h (h v0 12) (-1) = 20) ∧ (0 ≤ v1) ∧ (v1 < h (h v0 12) (-2)) ∧ ∀ h7, h7 = wr h6 (h v0 12) v1 0 → (h (h v0 13) (-1) = 21) ∧ (0 ≤ v1) ∧ (v1 < h (h v0 13) (-2)) ∧ ∀ h8, h8 = wr h7 (h v0 13) v1 0 → (h (h v0 14) (-1) = 20) ∧ (0 ≤ v1) ∧ (v1 < h (h v0 14) (-2)) ∧ ∀ h9, h9 = wr h8 (h v0 14) v1 0 → Q none h9) : Runs G mm_X10_endAnew [vR v0, vI v1, vI v2] h Q := Runs.of (by decide +kernel) (Nat.le_of_ble_eq_true rfl) (sg_X10_endAnew_0 (b := (0, 0)) k)
set_option maxRecDepth 20000 in
theorem sg_X10_erase_0 {G : GG} {b : Nat × Nat} {Q : Option VV → Hp → Prop} {v0 : Int} {h : Hp} (k : (h v0 (-1) = 11) ∧ ∀ h1, h1 = wr h v0 31 0 → Q (some (vI (h v0 31))) h1) : AW G mm_X10_erase b 0 [(0, vR v0)] [] h Q := by
  refine aw_aload_n 0 dX10_erase_0 rfl rfl ?_
  obtain ⟨o1, k⟩ := k
  refine aw_getI dX10_erase_1 fl_X10_128 rfl o1 (x := (h v0 31)) rfl ?_
  refine aw_istore_n dX10_erase_4 rfl (by decide) ?_
  refine aw_aload_n 1 dX10_erase_5 rfl rfl ?_
  refine aw_iconst dX10_erase_6 ⟨by decide, by decide⟩ ?_
  refine aw_putI dX10_erase_7 fl_X10_128 (fun q hq hf => by cases hq; cases hf) rfl rfl o1 ?_
  refine aw_hp (fun h1 e2 => ?_)
  have k := k h1 e2
  refine aw_iload_n 0 dX10_erase_10 rfl rfl ?_
  exact aw_iret dX10_erase_11 rfl k
theorem rn_X10_erase {G : GG} {Q : Option VV → Hp → Prop} {v0 : Int} {h : Hp} (k : (h v0 (-1) = 11) ∧ ∀ h1, h1 = wr h v0 31 0 → Q (some (vI (h v0 31))) h1) : Runs G mm_X10_erase [vR v0] h Q := Runs.of (by decide +kernel) (Nat.le_of_ble_eq_true rfl) (sg_X10_erase_0 (b := (0, 0)) k)
set_option maxRecDepth 20000 in
theorem sg_X10_fault_0 {G : GG} {b : Nat × Nat} {Q : Option VV → Hp → Prop} {v0 : Int} {h : Hp} (k : (h v0 (-1) = 11) ∧ Runs G mm_X10_readsAll [vR v0, vI 0] h (fun r h' => AW G mm_X10_fault b 5 [(0, vR v0)] (r.toList ++ []) h' Q)) : AW G mm_X10_fault b 0 [(0, vR v0)] [] h Q := by
  refine aw_aload_n 0 dX10_fault_0 rfl rfl ?_
  refine aw_iconst dX10_fault_1 ⟨by decide, by decide⟩ ?_
  obtain ⟨o1, k⟩ := k
  refine aw_callV (M' := mm_X10_readsAll) 10 [vI 0] [] lk_X10_190 ⟨_, rfl, rfl⟩ dX10_fault_2 rfl (Nat.le_of_ble_eq_true rfl) ⟨by decide, by decide, Nat.zero_le _, Nat.zero_le _⟩ o1 ?_
  exact k
theorem rn_X10_fault {G : GG} {Q : Option VV → Hp → Prop} {v0 : Int} {h : Hp} (k : (h v0 (-1) = 11) ∧ Runs G mm_X10_readsAll [vR v0, vI 0] h (fun r h' => AW G mm_X10_fault (0, 0) 5 [(0, vR v0)] (r.toList ++ []) h' Q)) : Runs G mm_X10_fault [vR v0] h Q := Runs.of (by decide +kernel) (Nat.le_of_ble_eq_true rfl) (sg_X10_fault_0 (b := (0, 0)) k)
set_option maxRecDepth 20000 in
theorem sg_X10_fault_5 {G : GG} {b : Nat × Nat} {Q : Option VV → Hp → Prop} {v0 s0 : Int} {h : Hp} (k : ((s0 = 0) → (h v0 (-1) = 11) ∧ Q (some (vI (h v0 32))) h) ∧ ((¬ (s0 = 0)) → Q (some (vI (-1))) h)) : AW G mm_X10_fault b 5 [(0, vR v0)] [vI s0] h Q := by
  refine aw_if_eq (tgt := 12) dX10_fault_5 (by decide) (fun hc => ?_) (fun hc => ?_)
  · have k := k.1 hc
    refine aw_aload_n 0 dX10_fault_12 rfl rfl ?_
    obtain ⟨o1, k⟩ := k
    refine aw_getI dX10_fault_13 fl_X10_142 rfl o1 (x := (h v0 32)) rfl ?_
    exact aw_iret dX10_fault_16 rfl k
  · have k := k.2 hc
    refine aw_iconst dX10_fault_8 ⟨by decide, by decide⟩ ?_
    refine aw_goto (tgt := 16) dX10_fault_9 (by decide) ?_
    exact aw_iret dX10_fault_16 rfl k
set_option maxRecDepth 20000 in
theorem sg_X10_firstPacket_0 {G : GG} {b : Nat × Nat} {Q : Option VV → Hp → Prop} {v0 : Int} {h : Hp} (k : AW G mm_X10_firstPacket b 4 [(0, vR v0), (1, vI 0), (2, vI 1)] [] h Q) : AW G mm_X10_firstPacket b 0 [(0, vR v0)] [] h Q := by
  refine aw_iconst dX10_firstPacket_0 ⟨by decide, by decide⟩ ?_
  refine aw_istore_n dX10_firstPacket_1 rfl (by decide) ?_
  refine aw_iconst dX10_firstPacket_2 ⟨by decide, by decide⟩ ?_
  refine aw_istore_n dX10_firstPacket_3 rfl (by decide) ?_
  exact aw_sub [2, 1, 0] rfl k
theorem rn_X10_firstPacket {G : GG} {Q : Option VV → Hp → Prop} {v0 : Int} {h : Hp} (k : AW G mm_X10_firstPacket (0, 0) 4 [(0, vR v0), (1, vI 0), (2, vI 1)] [] h Q) : Runs G mm_X10_firstPacket [vR v0] h Q := Runs.of (by decide +kernel) (Nat.le_of_ble_eq_true rfl) (sg_X10_firstPacket_0 (b := (0, 0)) k)
set_option maxRecDepth 20000 in
theorem sg_X10_firstPacket_4 {G : GG} {b : Nat × Nat} {Q : Option VV → Hp → Prop} {v0 v1 v2 : Int} {h : Hp} (k : (h v0 (-1) = 11) ∧ (((h v0 21) ≤ v2) → Q (some (vI v1)) h) ∧ ((¬ ((h v0 21) ≤ v2)) → (inI (11 * v2)) ∧ (inI ((11 * v2) + 9)) ∧ (h (h v0 20) (-1) = 20) ∧ (0 ≤ ((11 * v2) + 9)) ∧ (((11 * v2) + 9) < h (h v0 20) (-2)) ∧ (inI (11 * v1)) ∧ (inI ((11 * v1) + 9)) ∧ (0 ≤ ((11 * v1) + 9)) ∧ (((11 * v1) + 9) < h (h v0 20) (-2)) ∧ (inI ((h (h v0 20) ((11 * v2) + 9)) - (h (h v0 20) ((11 * v1) + 9)))) ∧ ((((h (h v0 20) ((11 * v2) + 9)) - (h (h v0 20) ((11 * v1) + 9))) < 0) → (inI (v2 + 1)) ∧ AW G mm_X10_firstPacket b 4 [(0, vR v0), (1, vI v2), (2, vI (v2 + 1))] [] h Q) ∧ ((¬ (((h (h v0 20) ((11 * v2) + 9)) - (h (h v0 20) ((11 * v1) + 9))) < 0)) → ((¬ ((h (h v0 20) ((11 * v2) + 9)) - (h (h v0 20) ((11 * v1) + 9))) = 0) → (inI (v2 + 1)) ∧ AW G mm_X10_firstPacket b 4 [(0, vR v0), (1, vI v1), (2, vI (v2 + 1))] [] h Q) ∧ ((((h (h v0 20) ((11 * v2) + 9)) - (h (h v0 20) ((11 * v1) + 9))) = 0) → (inI (11 * v2)) ∧ (inI ((11 * v2) + 10)) ∧ (0 ≤ ((11 * v2) + 10)) ∧ (((11 * v2) + 10) < h (h v0 20) (-2)) ∧ (inI (11 * v1)) ∧ (inI ((11 * v1) + 10)) ∧ (0 ≤ ((11 * v1) + 10)) ∧ (((11 * v1) + 10) < h (h v0 20) (-2)) ∧ (((h (h v0 20) ((11 * v1) + 10)) ≤ (h (h v0 20) ((11 * v2) + 10))) → (inI (v2 + 1)) ∧ AW G mm_X10_firstPacket b 4 [(0, vR v0), (1, vI v1), (2, vI (v2 + 1))] [] h Q) ∧ ((¬ ((h (h v0 20) ((11 * v1) + 10)) ≤ (h (h v0 20) ((11 * v2) + 10)))) → (inI (v2 + 1)) ∧ AW G mm_X10_firstPacket b 4 [(0, vR v0), (1, vI v2), (2, vI (v2 + 1))] [] h Q))))) : AW G mm_X10_firstPacket b 4 [(0, vR v0), (1, vI v1), (2, vI v2)] [] h Q := by
  refine aw_iload_n 2 dX10_firstPacket_4 rfl rfl ?_
  refine aw_aload_n 0 dX10_firstPacket_5 rfl rfl ?_
  obtain ⟨o1, k⟩ := k
  refine aw_getI dX10_firstPacket_6 fl_X10_113 rfl o1 (x := (h v0 21)) rfl ?_
  refine aw_icmp_ge (tgt := 85) dX10_firstPacket_9 (by decide) (fun hc => ?_) (fun hc => ?_)
  · have k := k.1 hc
    refine aw_iload_n 1 dX10_firstPacket_85 rfl rfl ?_
    exact aw_iret dX10_firstPacket_86 rfl k
  · have k := k.2 hc
    refine aw_aload_n 0 dX10_firstPacket_12 rfl rfl ?_
    refine aw_getR dX10_firstPacket_13 fl_X10_68 rfl o1 (x := (h v0 20)) rfl ?_
    refine aw_bipush dX10_firstPacket_16 ⟨by decide, by decide⟩ (by decide) ?_
    refine aw_iload_n 2 dX10_firstPacket_18 rfl rfl ?_
    obtain ⟨o2, k⟩ := k
    refine aw_imul dX10_firstPacket_19 o2 ?_
    refine aw_bipush dX10_firstPacket_20 ⟨by decide, by decide⟩ (by decide) ?_
    obtain ⟨o3, k⟩ := k
    refine aw_iadd dX10_firstPacket_22 o3 ?_
    obtain ⟨o4, k⟩ := k
    obtain ⟨o5, k⟩ := k
    obtain ⟨o6, k⟩ := k
    refine aw_iald dX10_firstPacket_23 o4 o5 o6 (x := (h (h v0 20) ((11 * v2) + 9))) rfl ?_
    refine aw_aload_n 0 dX10_firstPacket_24 rfl rfl ?_
    refine aw_getR dX10_firstPacket_25 fl_X10_68 rfl o1 (x := (h v0 20)) rfl ?_
    refine aw_bipush dX10_firstPacket_28 ⟨by decide, by decide⟩ (by decide) ?_
    refine aw_iload_n 1 dX10_firstPacket_30 rfl rfl ?_
    obtain ⟨o7, k⟩ := k
    refine aw_imul dX10_firstPacket_31 o7 ?_
    refine aw_bipush dX10_firstPacket_32 ⟨by decide, by decide⟩ (by decide) ?_
    obtain ⟨o8, k⟩ := k
    refine aw_iadd dX10_firstPacket_34 o8 ?_
    obtain ⟨o9, k⟩ := k
    obtain ⟨o10, k⟩ := k
    refine aw_iald dX10_firstPacket_35 o4 o9 o10 (x := (h (h v0 20) ((11 * v1) + 9))) rfl ?_
    obtain ⟨o11, k⟩ := k
    refine aw_isub dX10_firstPacket_36 o11 ?_
    refine aw_istore_n dX10_firstPacket_37 rfl (by decide) ?_
    refine aw_iload_n 0 dX10_firstPacket_38 rfl rfl ?_
    refine aw_if_lt (tgt := 73) dX10_firstPacket_39 (by decide) (fun hc => ?_) (fun hc => ?_)
    · have k := k.1 hc
      refine aw_iload_n 3 dX10_firstPacket_73 rfl rfl ?_
      refine aw_goto (tgt := 78) dX10_firstPacket_74 (by decide) ?_
      refine aw_istore_n dX10_firstPacket_78 rfl (by decide) ?_
      obtain ⟨o12, k⟩ := k
      refine aw_iinc 3 dX10_firstPacket_79 rfl o12 (by decide) ?_
      refine aw_goto (tgt := 4) dX10_firstPacket_82 (by decide) ?_
      exact aw_sub [3, 1, 0] rfl k
    · have k := k.2 hc
      refine aw_iload_n 0 dX10_firstPacket_42 rfl rfl ?_
      refine aw_if_ne (tgt := 77) dX10_firstPacket_43 (by decide) (fun hc => ?_) (fun hc => ?_)
      · have k := k.1 hc
        refine aw_iload_n 2 dX10_firstPacket_77 rfl rfl ?_
        refine aw_istore_n dX10_firstPacket_78 rfl (by decide) ?_
        obtain ⟨o13, k⟩ := k
        refine aw_iinc 3 dX10_firstPacket_79 rfl o13 (by decide) ?_
        refine aw_goto (tgt := 4) dX10_firstPacket_82 (by decide) ?_
        exact aw_sub [3, 1, 0] rfl k
      · have k := k.2 hc
        refine aw_aload_n 1 dX10_firstPacket_46 rfl rfl ?_
        refine aw_getR dX10_firstPacket_47 fl_X10_68 rfl o1 (x := (h v0 20)) rfl ?_
        refine aw_bipush dX10_firstPacket_50 ⟨by decide, by decide⟩ (by decide) ?_
        refine aw_iload_n 3 dX10_firstPacket_52 rfl rfl ?_
        obtain ⟨o14, k⟩ := k
        refine aw_imul dX10_firstPacket_53 o14 ?_
        refine aw_bipush dX10_firstPacket_54 ⟨by decide, by decide⟩ (by decide) ?_
        obtain ⟨o15, k⟩ := k
        refine aw_iadd dX10_firstPacket_56 o15 ?_
        obtain ⟨o16, k⟩ := k
        obtain ⟨o17, k⟩ := k
        refine aw_iald dX10_firstPacket_57 o4 o16 o17 (x := (h (h v0 20) ((11 * v2) + 10))) rfl ?_
        refine aw_aload_n 1 dX10_firstPacket_58 rfl rfl ?_
        refine aw_getR dX10_firstPacket_59 fl_X10_68 rfl o1 (x := (h v0 20)) rfl ?_
        refine aw_bipush dX10_firstPacket_62 ⟨by decide, by decide⟩ (by decide) ?_
        refine aw_iload_n 2 dX10_firstPacket_64 rfl rfl ?_
        obtain ⟨o18, k⟩ := k
        refine aw_imul dX10_firstPacket_65 o18 ?_
        refine aw_bipush dX10_firstPacket_66 ⟨by decide, by decide⟩ (by decide) ?_
        obtain ⟨o19, k⟩ := k
        refine aw_iadd dX10_firstPacket_68 o19 ?_
        obtain ⟨o20, k⟩ := k
        obtain ⟨o21, k⟩ := k
        refine aw_iald dX10_firstPacket_69 o4 o20 o21 (x := (h (h v0 20) ((11 * v1) + 10))) rfl ?_
        refine aw_icmp_ge (tgt := 77) dX10_firstPacket_70 (by decide) (fun hc => ?_) (fun hc => ?_)
        · have k := k.1 hc
          refine aw_iload_n 2 dX10_firstPacket_77 rfl rfl ?_
          refine aw_istore_n dX10_firstPacket_78 rfl (by decide) ?_
          obtain ⟨o22, k⟩ := k
          refine aw_iinc 3 dX10_firstPacket_79 rfl o22 (by decide) ?_
          refine aw_goto (tgt := 4) dX10_firstPacket_82 (by decide) ?_
          exact aw_sub [3, 1, 0] rfl k
        · have k := k.2 hc
          refine aw_iload_n 3 dX10_firstPacket_73 rfl rfl ?_
          refine aw_goto (tgt := 78) dX10_firstPacket_74 (by decide) ?_
          refine aw_istore_n dX10_firstPacket_78 rfl (by decide) ?_
          obtain ⟨o23, k⟩ := k
          refine aw_iinc 3 dX10_firstPacket_79 rfl o23 (by decide) ?_
          refine aw_goto (tgt := 4) dX10_firstPacket_82 (by decide) ?_
          exact aw_sub [3, 1, 0] rfl k
