/-! printed by writeseg.py: segments of methods -/
set_option maxRecDepth 20000 in
theorem sg_X10_wordHere_0 {G : GG} {b : Nat × Nat} {Q : Option VV → Hp → Prop} {v0 : Int} {h : Hp} (k : AW G mm_X10_wordHere b 2 [(0, vR v0), (1, vI 0)] [] h Q) : AW G mm_X10_wordHere b 0 [(0, vR v0)] [] h Q := by
  refine aw_iconst dX10_wordHere_0 ⟨by decide, by decide⟩ ?_
  refine aw_istore_n dX10_wordHere_1 rfl (by decide) ?_
  exact aw_sub [1, 0] rfl k
theorem rn_X10_wordHere {G : GG} {Q : Option VV → Hp → Prop} {v0 : Int} {h : Hp} (k : AW G mm_X10_wordHere (0, 0) 2 [(0, vR v0), (1, vI 0)] [] h Q) : Runs G mm_X10_wordHere [vR v0] h Q := Runs.of (by decide +kernel) (Nat.le_of_ble_eq_true rfl) (sg_X10_wordHere_0 (b := (0, 0)) k)
set_option maxRecDepth 20000 in
theorem sg_X10_wordHere_2 {G : GG} {b : Nat × Nat} {Q : Option VV → Hp → Prop} {v0 v1 : Int} {h : Hp} (k : ((6 ≤ v1) → Q (some (vI (-1))) h) ∧ ((¬ (6 ≤ v1)) → (h v0 (-1) = 11) ∧ (((h v0 33) ≤ (h v0 32)) → AW G mm_X10_wordHere b 41 [(0, vR v0), (1, vI v1), (2, vI 0), (3, vI 0)] [] h Q) ∧ ((¬ ((h v0 33) ≤ (h v0 32))) → (inI ((h v0 33) - (h v0 32))) ∧ ((6 ≤ ((h v0 33) - (h v0 32))) → AW G mm_X10_wordHere b 41 [(0, vR v0), (1, vI v1), (2, vI 0), (3, vI 0)] [] h Q) ∧ ((¬ (6 ≤ ((h v0 33) - (h v0 32)))) → AW G mm_X10_wordHere b 41 [(0, vR v0), (1, vI v1), (2, vI 1), (3, vI 0)] [] h Q)))) : AW G mm_X10_wordHere b 2 [(0, vR v0), (1, vI v1)] [] h Q := by
  refine aw_iload_n 1 dX10_wordHere_2 rfl rfl ?_
  refine aw_bipush dX10_wordHere_3 ⟨by decide, by decide⟩ (by decide) ?_
  refine aw_icmp_ge (tgt := 115) dX10_wordHere_5 (by decide) (fun hc => ?_) (fun hc => ?_)
  · have k := k.1 hc
    refine aw_iconst dX10_wordHere_115 ⟨by decide, by decide⟩ ?_
    exact aw_iret dX10_wordHere_116 rfl k
  · have k := k.2 hc
    refine aw_aload_n 0 dX10_wordHere_8 rfl rfl ?_
    obtain ⟨o1, k⟩ := k
    refine aw_getI dX10_wordHere_9 fl_X10_139 rfl o1 (x := (h v0 33)) rfl ?_
    refine aw_aload_n 0 dX10_wordHere_12 rfl rfl ?_
    refine aw_getI dX10_wordHere_13 fl_X10_142 rfl o1 (x := (h v0 32)) rfl ?_
    refine aw_icmp_le (tgt := 37) dX10_wordHere_16 (by decide) (fun hc => ?_) (fun hc => ?_)
    · have k := k.1 hc
      refine aw_iconst dX10_wordHere_37 ⟨by decide, by decide⟩ ?_
      refine aw_istore_n dX10_wordHere_38 rfl (by decide) ?_
      refine aw_iconst dX10_wordHere_39 ⟨by decide, by decide⟩ ?_
      refine aw_istore_n dX10_wordHere_40 rfl (by decide) ?_
      exact aw_sub [2, 3, 1, 0] rfl k
    · have k := k.2 hc
      refine aw_aload_n 0 dX10_wordHere_19 rfl rfl ?_
      refine aw_getI dX10_wordHere_20 fl_X10_139 rfl o1 (x := (h v0 33)) rfl ?_
      refine aw_aload_n 0 dX10_wordHere_23 rfl rfl ?_
      refine aw_getI dX10_wordHere_24 fl_X10_142 rfl o1 (x := (h v0 32)) rfl ?_
      obtain ⟨o2, k⟩ := k
      refine aw_isub dX10_wordHere_27 o2 ?_
      refine aw_bipush dX10_wordHere_28 ⟨by decide, by decide⟩ (by decide) ?_
      refine aw_icmp_ge (tgt := 37) dX10_wordHere_30 (by decide) (fun hc => ?_) (fun hc => ?_)
      · have k := k.1 hc
        refine aw_iconst dX10_wordHere_37 ⟨by decide, by decide⟩ ?_
        refine aw_istore_n dX10_wordHere_38 rfl (by decide) ?_
        refine aw_iconst dX10_wordHere_39 ⟨by decide, by decide⟩ ?_
        refine aw_istore_n dX10_wordHere_40 rfl (by decide) ?_
        exact aw_sub [2, 3, 1, 0] rfl k
      · have k := k.2 hc
        refine aw_iconst dX10_wordHere_33 ⟨by decide, by decide⟩ ?_
        refine aw_goto (tgt := 38) dX10_wordHere_34 (by decide) ?_
        refine aw_istore_n dX10_wordHere_38 rfl (by decide) ?_
        refine aw_iconst dX10_wordHere_39 ⟨by decide, by decide⟩ ?_
        refine aw_istore_n dX10_wordHere_40 rfl (by decide) ?_
        exact aw_sub [2, 3, 1, 0] rfl k
set_option maxRecDepth 20000 in
theorem sg_X10_wordHere_41 {G : GG} {b : Nat × Nat} {Q : Option VV → Hp → Prop} {v0 v1 v2 v3 : Int} {h : Hp} (k : ((5 ≤ v3) → ((v2 = 0) → (inI (v1 + 1)) ∧ AW G mm_X10_wordHere b 2 [(0, vR v0), (1, vI (v1 + 1))] [] h Q) ∧ ((¬ (v2 = 0)) → Q (some (vI v1)) h)) ∧ ((¬ (5 ≤ v3)) → ((v2 = 0) → ((v2 = 0) → (inI (v1 + 1)) ∧ AW G mm_X10_wordHere b 2 [(0, vR v0), (1, vI (v1 + 1))] [] h Q) ∧ ((¬ (v2 = 0)) → Q (some (vI v1)) h)) ∧ ((¬ (v2 = 0)) → (h v0 (-1) = 11) ∧ (inI (5 * v1)) ∧ (inI ((5 * v1) + v3)) ∧ (h (h v0 37) (-1) = 20) ∧ (0 ≤ ((5 * v1) + v3)) ∧ (((5 * v1) + v3) < h (h v0 37) (-2)) ∧ (inI ((h v0 32) + v3)) ∧ (((h v0 33) ≤ ((h v0 32) + v3)) → ((¬ (h (h v0 37) ((5 * v1) + v3)) = 0) → (inI (v3 + 1)) ∧ AW G mm_X10_wordHere b 41 [(0, vR v0), (1, vI v1), (2, vI 0), (3, vI (v3 + 1))] [] h Q) ∧ (((h (h v0 37) ((5 * v1) + v3)) = 0) → (inI (v3 + 1)) ∧ AW G mm_X10_wordHere b 41 [(0, vR v0), (1, vI v1), (2, vI 1), (3, vI (v3 + 1))] [] h Q)) ∧ ((¬ ((h v0 33) ≤ ((h v0 32) + v3))) → (h (h v0 30) (-1) = 20) ∧ (0 ≤ ((h v0 32) + v3)) ∧ (((h v0 32) + v3) < h (h v0 30) (-2)) ∧ ((¬ (h (h v0 37) ((5 * v1) + v3)) = (h (h v0 30) ((h v0 32) + v3))) → (inI (v3 + 1)) ∧ AW G mm_X10_wordHere b 41 [(0, vR v0), (1, vI v1), (2, vI 0), (3, vI (v3 + 1))] [] h Q) ∧ (((h (h v0 37) ((5 * v1) + v3)) = (h (h v0 30) ((h v0 32) + v3))) → (inI (v3 + 1)) ∧ AW G mm_X10_wordHere b 41 [(0, vR v0), (1, vI v1), (2, vI 1), (3, vI (v3 + 1))] [] h Q))))) : AW G mm_X10_wordHere b 41 [(0, vR v0), (1, vI v1), (2, vI v2), (3, vI v3)] [] h Q := by
  refine aw_iload_n 3 dX10_wordHere_41 rfl rfl ?_
  refine aw_iconst dX10_wordHere_42 ⟨by decide, by decide⟩ ?_
  refine aw_icmp_ge (tgt := 103) dX10_wordHere_43 (by decide) (fun hc => ?_) (fun hc => ?_)
  · have k := k.1 hc
    refine aw_iload_n 2 dX10_wordHere_103 rfl rfl ?_
    refine aw_if_eq (tgt := 109) dX10_wordHere_104 (by decide) (fun hc => ?_) (fun hc => ?_)
    · have k := k.1 hc
      obtain ⟨o1, k⟩ := k
      refine aw_iinc 1 dX10_wordHere_109 rfl o1 (by decide) ?_
      refine aw_goto (tgt := 2) dX10_wordHere_112 (by decide) ?_
      exact aw_sub [1, 0] rfl k
    · have k := k.2 hc
      refine aw_iload_n 1 dX10_wordHere_107 rfl rfl ?_
      exact aw_iret dX10_wordHere_108 rfl k
  · have k := k.2 hc
    refine aw_iload_n 2 dX10_wordHere_46 rfl rfl ?_
    refine aw_if_eq (tgt := 103) dX10_wordHere_47 (by decide) (fun hc => ?_) (fun hc => ?_)
    · have k := k.1 hc
      refine aw_iload_n 2 dX10_wordHere_103 rfl rfl ?_
      refine aw_if_eq (tgt := 109) dX10_wordHere_104 (by decide) (fun hc => ?_) (fun hc => ?_)
      · have k := k.1 hc
        obtain ⟨o2, k⟩ := k
        refine aw_iinc 1 dX10_wordHere_109 rfl o2 (by decide) ?_
        refine aw_goto (tgt := 2) dX10_wordHere_112 (by decide) ?_
        exact aw_sub [1, 0] rfl k
      · have k := k.2 hc
        refine aw_iload_n 1 dX10_wordHere_107 rfl rfl ?_
        exact aw_iret dX10_wordHere_108 rfl k
    · have k := k.2 hc
      refine aw_aload_n 0 dX10_wordHere_50 rfl rfl ?_
      obtain ⟨o3, k⟩ := k
      refine aw_getR dX10_wordHere_51 fl_X10_89 rfl o3 (x := (h v0 37)) rfl ?_
      refine aw_iconst dX10_wordHere_54 ⟨by decide, by decide⟩ ?_
      refine aw_iload_n 1 dX10_wordHere_55 rfl rfl ?_
      obtain ⟨o4, k⟩ := k
      refine aw_imul dX10_wordHere_56 o4 ?_
      refine aw_iload_n 3 dX10_wordHere_57 rfl rfl ?_
      obtain ⟨o5, k⟩ := k
      refine aw_iadd dX10_wordHere_58 o5 ?_
      obtain ⟨o6, k⟩ := k
      obtain ⟨o7, k⟩ := k
      obtain ⟨o8, k⟩ := k
      refine aw_iald dX10_wordHere_59 o6 o7 o8 (x := (h (h v0 37) ((5 * v1) + v3))) rfl ?_
      refine aw_aload_n 0 dX10_wordHere_60 rfl rfl ?_
      refine aw_getI dX10_wordHere_61 fl_X10_142 rfl o3 (x := (h v0 32)) rfl ?_
      refine aw_iload_n 3 dX10_wordHere_64 rfl rfl ?_
      obtain ⟨o9, k⟩ := k
      refine aw_iadd dX10_wordHere_65 o9 ?_
      refine aw_aload_n 0 dX10_wordHere_66 rfl rfl ?_
      refine aw_getI dX10_wordHere_67 fl_X10_139 rfl o3 (x := (h v0 33)) rfl ?_
      refine aw_icmp_ge (tgt := 87) dX10_wordHere_70 (by decide) (fun hc => ?_) (fun hc => ?_)
      · have k := k.1 hc
        refine aw_iconst dX10_wordHere_87 ⟨by decide, by decide⟩ ?_
        refine aw_icmp_ne (tgt := 95) dX10_wordHere_88 (by decide) (fun hc => ?_) (fun hc => ?_)
        · have k := k.1 hc
          refine aw_iconst dX10_wordHere_95 ⟨by decide, by decide⟩ ?_
          refine aw_istore_n dX10_wordHere_96 rfl (by decide) ?_
          obtain ⟨o10, k⟩ := k
          refine aw_iinc 3 dX10_wordHere_97 rfl o10 (by decide) ?_
          refine aw_goto (tgt := 41) dX10_wordHere_100 (by decide) ?_
          exact aw_sub [2, 3, 1, 0] rfl k
        · have k := k.2 hc
          refine aw_iconst dX10_wordHere_91 ⟨by decide, by decide⟩ ?_
          refine aw_goto (tgt := 96) dX10_wordHere_92 (by decide) ?_
          refine aw_istore_n dX10_wordHere_96 rfl (by decide) ?_
          obtain ⟨o11, k⟩ := k
          refine aw_iinc 3 dX10_wordHere_97 rfl o11 (by decide) ?_
          refine aw_goto (tgt := 41) dX10_wordHere_100 (by decide) ?_
          exact aw_sub [2, 3, 1, 0] rfl k
      · have k := k.2 hc
        refine aw_aload_n 0 dX10_wordHere_73 rfl rfl ?_
        refine aw_getR dX10_wordHere_74 fl_X10_83 rfl o3 (x := (h v0 30)) rfl ?_
        refine aw_aload_n 0 dX10_wordHere_77 rfl rfl ?_
        refine aw_getI dX10_wordHere_78 fl_X10_142 rfl o3 (x := (h v0 32)) rfl ?_
        refine aw_iload_n 3 dX10_wordHere_81 rfl rfl ?_
        refine aw_iadd dX10_wordHere_82 o9 ?_
        obtain ⟨o12, k⟩ := k
        obtain ⟨o13, k⟩ := k
        obtain ⟨o14, k⟩ := k
        refine aw_iald dX10_wordHere_83 o12 o13 o14 (x := (h (h v0 30) ((h v0 32) + v3))) rfl ?_
        refine aw_goto (tgt := 88) dX10_wordHere_84 (by decide) ?_
        refine aw_icmp_ne (tgt := 95) dX10_wordHere_88 (by decide) (fun hc => ?_) (fun hc => ?_)
        · have k := k.1 hc
          refine aw_iconst dX10_wordHere_95 ⟨by decide, by decide⟩ ?_
          refine aw_istore_n dX10_wordHere_96 rfl (by decide) ?_
          obtain ⟨o15, k⟩ := k
          refine aw_iinc 3 dX10_wordHere_97 rfl o15 (by decide) ?_
          refine aw_goto (tgt := 41) dX10_wordHere_100 (by decide) ?_
          exact aw_sub [2, 3, 1, 0] rfl k
        · have k := k.2 hc
          refine aw_iconst dX10_wordHere_91 ⟨by decide, by decide⟩ ?_
          refine aw_goto (tgt := 96) dX10_wordHere_92 (by decide) ?_
          refine aw_istore_n dX10_wordHere_96 rfl (by decide) ?_
          obtain ⟨o16, k⟩ := k
          refine aw_iinc 3 dX10_wordHere_97 rfl o16 (by decide) ?_
          refine aw_goto (tgt := 41) dX10_wordHere_100 (by decide) ?_
          exact aw_sub [2, 3, 1, 0] rfl k
set_option maxRecDepth 20000 in
theorem sg_X10_write_0 {G : GG} {b : Nat × Nat} {Q : Option VV → Hp → Prop} {v0 v1 : Int} {h : Hp} (k : ((0 ≤ v1 ∧ v1 ≤ 255) → (h v0 (-1) = 11) ∧ ((¬ (h v0 31) = 200) → (h (h v0 30) (-1) = 20) ∧ (0 ≤ (h v0 31)) ∧ ((h v0 31) < h (h v0 30) (-2)) ∧ ∀ h1, h1 = wr h (h v0 30) (h v0 31) v1 → (inI ((h v0 31) + 1)) ∧ ∀ h2, h2 = wr h1 v0 31 ((h v0 31) + 1) → Q (some (vI ((h v0 31) + 1))) h2) ∧ (((h v0 31) = 200) → Q (some (vI (-1004))) h)) ∧ ((¬ (0 ≤ v1 ∧ v1 ≤ 255)) → Q (some (vI (-1002))) h)) : AW G mm_X10_write b 0 [(0, vR v0), (1, vI v1)] [] h Q := by
  refine aw_iload_n 1 dX10_write_0 rfl rfl ?_
  refine aw_i2l dX10_write_1 ?_
  refine aw_lconst (x := 0) dX10_write_2 ⟨by decide, by decide⟩ (by decide) ?_
  refine aw_ldc2 (x := 255) dX10_write_3 ⟨by decide, by decide⟩ cl_X10_126 ?_
  refine aw_callS (M' := mm_X10_in) [vL v1, vL 0, vL 255] [] lk_X10_95 dX10_write_6 rfl (Nat.le_of_ble_eq_true rfl) ⟨by decide, by decide, Nat.zero_le _, Nat.zero_le _⟩ ?_
  refine pu_X10_in ?_
  refine aw_if_ne (tgt := 16) dX10_write_9 (by decide) (fun hc => ?_) (fun hc => ?_)
  · have k := k.1 (b2i_n.mp hc)
    refine aw_aload_n 0 dX10_write_16 rfl rfl ?_
    obtain ⟨o1, k⟩ := k
    refine aw_getI dX10_write_17 fl_X10_128 rfl o1 (x := (h v0 31)) rfl ?_
    refine aw_sipush dX10_write_20 ⟨by decide, by decide⟩ (by decide) ?_
    refine aw_icmp_ne (tgt := 30) dX10_write_23 (by decide) (fun hc => ?_) (fun hc => ?_)
    · have k := k.1 hc
      refine aw_aload_n 0 dX10_write_30 rfl rfl ?_
      refine aw_getR dX10_write_31 fl_X10_83 rfl o1 (x := (h v0 30)) rfl ?_
      refine aw_aload_n 0 dX10_write_34 rfl rfl ?_
      refine aw_getI dX10_write_35 fl_X10_128 rfl o1 (x := (h v0 31)) rfl ?_
      refine aw_iload_n 1 dX10_write_38 rfl rfl ?_
      obtain ⟨o2, k⟩ := k
      obtain ⟨o3, k⟩ := k
      obtain ⟨o4, k⟩ := k
      refine aw_iast dX10_write_39 o2 o3 o4 ?_
      refine aw_hp (fun h1 e5 => ?_)
      have k := k h1 e5
      refine aw_aload_n 0 dX10_write_40 rfl rfl ?_
      refine aw_dup dX10_write_41 rfl ?_
      have q6 := sh_w e5 o3 o1
      refine aw_getI dX10_write_42 fl_X10_128 rfl q6 (x := (h v0 31)) (rd_a e5 v0 31 (ne_sh o2 o1 (by decide))) ?_
      refine aw_iconst dX10_write_45 ⟨by decide, by decide⟩ ?_
      obtain ⟨o7, k⟩ := k
      refine aw_iadd dX10_write_46 o7 ?_
      refine aw_putI dX10_write_47 fl_X10_128 (fun q hq hf => by cases hq; cases hf) rfl rfl q6 ?_
      refine aw_hp (fun h2 e8 => ?_)
      have k := k h2 e8
      refine aw_aload_n 0 dX10_write_50 rfl rfl ?_
      have q9 := sh_w e8 (by decide) q6
      refine aw_getI dX10_write_51 fl_X10_128 rfl q9 (x := ((h v0 31) + 1)) (rd_e e8) ?_
      exact aw_iret dX10_write_54 rfl k
    · have k := k.2 hc
      refine aw_sipush dX10_write_26 ⟨by decide, by decide⟩ (by decide) ?_
      exact aw_iret dX10_write_29 rfl k
  · have k := k.2 (b2i_0.mp hc)
    refine aw_sipush dX10_write_12 ⟨by decide, by decide⟩ (by decide) ?_
    exact aw_iret dX10_write_15 rfl k
theorem rn_X10_write {G : GG} {Q : Option VV → Hp → Prop} {v0 v1 : Int} {h : Hp} (k : ((0 ≤ v1 ∧ v1 ≤ 255) → (h v0 (-1) = 11) ∧ ((¬ (h v0 31) = 200) → (h (h v0 30) (-1) = 20) ∧ (0 ≤ (h v0 31)) ∧ ((h v0 31) < h (h v0 30) (-2)) ∧ ∀ h1, h1 = wr h (h v0 30) (h v0 31) v1 → (inI ((h v0 31) + 1)) ∧ ∀ h2, h2 = wr h1 v0 31 ((h v0 31) + 1) → Q (some (vI ((h v0 31) + 1))) h2) ∧ (((h v0 31) = 200) → Q (some (vI (-1004))) h)) ∧ ((¬ (0 ≤ v1 ∧ v1 ≤ 255)) → Q (some (vI (-1002))) h)) : Runs G mm_X10_write [vR v0, vI v1] h Q := Runs.of (by decide +kernel) (Nat.le_of_ble_eq_true rfl) (sg_X10_write_0 (b := (0, 0)) k)
