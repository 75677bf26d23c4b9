/-! printed by writeseg.py: segments of methods -/
set_option maxRecDepth 20000 in
theorem sg_X10_post_0 {G : GG} {b : Nat × Nat} {Q : Option VV → Hp → Prop} {v0 v1 v2 v3 v4 v5 : Int} {h : Hp} (k : (h v0 (-1) = 11) ∧ (h (h v0 4) (-1) = 20) ∧ (0 ≤ v1) ∧ (v1 < h (h v0 4) (-2)) ∧ (((h (h v0 4) v1) = 1) → AW G mm_X10_post b 20 [(0, vR v0), (1, vI v1), (2, vI v2), (3, vI v3), (4, vI v4), (5, vI v5), (6, vI 0), (7, vI 0)] [] h Q) ∧ ((¬ ((h (h v0 4) v1) = 1)) → Q (some (vI (-1003))) h)) : AW G mm_X10_post b 0 [(0, vR v0), (1, vI v1), (2, vI v2), (3, vI v3), (4, vI v4), (5, vI v5)] [] h Q := by
  refine aw_aload_n 0 dX10_post_0 rfl rfl ?_
  obtain ⟨o1, k⟩ := k
  refine aw_getR dX10_post_1 fl_X10_22 rfl o1 (x := (h v0 4)) rfl ?_
  refine aw_iload_n 1 dX10_post_4 rfl rfl ?_
  obtain ⟨o2, k⟩ := k
  obtain ⟨o3, k⟩ := k
  obtain ⟨o4, k⟩ := k
  refine aw_iald dX10_post_5 o2 o3 o4 (x := (h (h v0 4) v1)) rfl ?_
  refine aw_iconst dX10_post_6 ⟨by decide, by decide⟩ ?_
  refine aw_icmp_eq (tgt := 14) dX10_post_7 (by decide) (fun hc => ?_) (fun hc => ?_)
  · have k := k.1 hc
    refine aw_iconst dX10_post_14 ⟨by decide, by decide⟩ ?_
    refine aw_istore dX10_post_15 (by decide) ?_
    refine aw_iconst dX10_post_17 ⟨by decide, by decide⟩ ?_
    refine aw_istore dX10_post_18 (by decide) ?_
    exact aw_sub [2, 3, 4, 5, 6, 7, 1, 0] rfl k
  · have k := k.2 hc
    refine aw_sipush dX10_post_10 ⟨by decide, by decide⟩ (by decide) ?_
    exact aw_iret dX10_post_13 rfl k
theorem rn_X10_post {G : GG} {Q : Option VV → Hp → Prop} {v0 v1 v2 v3 v4 v5 : Int} {h : Hp} (k : (h v0 (-1) = 11) ∧ (h (h v0 4) (-1) = 20) ∧ (0 ≤ v1) ∧ (v1 < h (h v0 4) (-2)) ∧ (((h (h v0 4) v1) = 1) → AW G mm_X10_post (0, 0) 20 [(0, vR v0), (1, vI v1), (2, vI v2), (3, vI v3), (4, vI v4), (5, vI v5), (6, vI 0), (7, vI 0)] [] h Q) ∧ ((¬ ((h (h v0 4) v1) = 1)) → Q (some (vI (-1003))) h)) : Runs G mm_X10_post [vR v0, vI v1, vI v2, vI v3, vI v4, vI v5] h Q := Runs.of (by decide +kernel) (Nat.le_of_ble_eq_true rfl) (sg_X10_post_0 (b := (0, 0)) k)
set_option maxRecDepth 20000 in
theorem sg_X10_post_20 {G : GG} {b : Nat × Nat} {Q : Option VV → Hp → Prop} {v0 v1 v2 v3 v4 v5 v6 v7 : Int} {h : Hp} (k : (h v0 (-1) = 11) ∧ (h (h v0 6) (-1) = 20) ∧ (0 ≤ v1) ∧ (v1 < h (h v0 6) (-2)) ∧ (((h (h v0 6) v1) ≤ v7) → (0 ≤ v1) ∧ (v1 < h (h v0 6) (-2)) ∧ (((h (h v0 6) v1) = 4) → Q (some (vI (-1004))) h) ∧ ((¬ ((h (h v0 6) v1) = 4)) → ((v2 ≤ 1) → (inI (4 * v1)) ∧ (0 ≤ v1) ∧ (v1 < h (h v0 6) (-2)) ∧ (inI ((4 * v1) + (h (h v0 6) v1))) ∧ (inI (7 * ((4 * v1) + (h (h v0 6) v1)))) ∧ (inI ((7 * ((4 * v1) + (h (h v0 6) v1))) + 0)) ∧ (h (h v0 5) (-1) = 20) ∧ (0 ≤ v1) ∧ (v1 < h (h v0 5) (-2)) ∧ (h (h v0 7) (-1) = 20) ∧ (0 ≤ ((7 * ((4 * v1) + (h (h v0 6) v1))) + 0)) ∧ (((7 * ((4 * v1) + (h (h v0 6) v1))) + 0) < h (h v0 7) (-2)) ∧ ∀ h1, h1 = wr h (h v0 7) ((7 * ((4 * v1) + (h (h v0 6) v1))) + 0) (h (h v0 5) v1) → (inI ((7 * ((4 * v1) + (h (h v0 6) v1))) + 1)) ∧ (0 ≤ ((7 * ((4 * v1) + (h (h v0 6) v1))) + 1)) ∧ (((7 * ((4 * v1) + (h (h v0 6) v1))) + 1) < h (h v0 7) (-2)) ∧ ∀ h2, h2 = wr h1 (h v0 7) ((7 * ((4 * v1) + (h (h v0 6) v1))) + 1) v2 → (inI ((7 * ((4 * v1) + (h (h v0 6) v1))) + 2)) ∧ (h (h v0 16) (-1) = 20) ∧ (0 ≤ v1) ∧ (v1 < h (h v0 16) (-2)) ∧ (0 ≤ ((7 * ((4 * v1) + (h (h v0 6) v1))) + 2)) ∧ (((7 * ((4 * v1) + (h (h v0 6) v1))) + 2) < h (h v0 7) (-2)) ∧ ∀ h3, h3 = wr h2 (h v0 7) ((7 * ((4 * v1) + (h (h v0 6) v1))) + 2) (h2 (h v0 16) v1) → (inI ((7 * ((4 * v1) + (h (h v0 6) v1))) + 3)) ∧ (h (h v0 17) (-1) = 20) ∧ (0 ≤ v1) ∧ (v1 < h (h v0 17) (-2)) ∧ (0 ≤ ((7 * ((4 * v1) + (h (h v0 6) v1))) + 3)) ∧ (((7 * ((4 * v1) + (h (h v0 6) v1))) + 3) < h (h v0 7) (-2)) ∧ ∀ h4, h4 = wr h3 (h v0 7) ((7 * ((4 * v1) + (h (h v0 6) v1))) + 3) (h3 (h v0 17) v1) → (inI ((7 * ((4 * v1) + (h (h v0 6) v1))) + 4)) ∧ (0 ≤ ((7 * ((4 * v1) + (h (h v0 6) v1))) + 4)) ∧ (((7 * ((4 * v1) + (h (h v0 6) v1))) + 4) < h (h v0 7) (-2)) ∧ ∀ h5, h5 = wr h4 (h v0 7) ((7 * ((4 * v1) + (h (h v0 6) v1))) + 4) v3 → (inI ((7 * ((4 * v1) + (h (h v0 6) v1))) + 5)) ∧ (0 ≤ ((7 * ((4 * v1) + (h (h v0 6) v1))) + 5)) ∧ (((7 * ((4 * v1) + (h (h v0 6) v1))) + 5) < h (h v0 7) (-2)) ∧ ∀ h6, h6 = wr h5 (h v0 7) ((7 * ((4 * v1) + (h (h v0 6) v1))) + 5) v4 → (inI ((7 * ((4 * v1) + (h (h v0 6) v1))) + 6)) ∧ (0 ≤ ((7 * ((4 * v1) + (h (h v0 6) v1))) + 6)) ∧ (((7 * ((4 * v1) + (h (h v0 6) v1))) + 6) < h (h v0 7) (-2)) ∧ ∀ h7, h7 = wr h6 (h v0 7) ((7 * ((4 * v1) + (h (h v0 6) v1))) + 6) v5 → (0 ≤ v1) ∧ (v1 < h (h v0 6) (-2)) ∧ (inI ((h7 (h v0 6) v1) + 1)) ∧ (0 ≤ v1) ∧ (v1 < h (h v0 6) (-2)) ∧ ∀ h8, h8 = wr h7 (h v0 6) v1 ((h7 (h v0 6) v1) + 1) → (0 ≤ v1) ∧ (v1 < h (h v0 5) (-2)) ∧ (inI ((h8 (h v0 5) v1) + 1)) ∧ (0 ≤ v1) ∧ (v1 < h (h v0 5) (-2)) ∧ ∀ h9, h9 = wr h8 (h v0 5) v1 ((h8 (h v0 5) v1) + 1) → (0 ≤ v1) ∧ (v1 < h (h v0 6) (-2)) ∧ (inI ((h9 (h v0 6) v1) - 1)) ∧ Runs G mm_X10_sendsWork [vR v0, vI v1, vI ((h9 (h v0 6) v1) - 1)] h9 (fun r h' => AW G mm_X10_post b 228 [(0, vR v0), (1, vI v1)] (r.toList ++ []) h' Q)) ∧ ((¬ (v2 ≤ 1)) → ((¬ v6 = 2) → (inI (4 * v1)) ∧ (0 ≤ v1) ∧ (v1 < h (h v0 6) (-2)) ∧ (inI ((4 * v1) + (h (h v0 6) v1))) ∧ (inI (7 * ((4 * v1) + (h (h v0 6) v1)))) ∧ (inI ((7 * ((4 * v1) + (h (h v0 6) v1))) + 0)) ∧ (h (h v0 5) (-1) = 20) ∧ (0 ≤ v1) ∧ (v1 < h (h v0 5) (-2)) ∧ (h (h v0 7) (-1) = 20) ∧ (0 ≤ ((7 * ((4 * v1) + (h (h v0 6) v1))) + 0)) ∧ (((7 * ((4 * v1) + (h (h v0 6) v1))) + 0) < h (h v0 7) (-2)) ∧ ∀ h1, h1 = wr h (h v0 7) ((7 * ((4 * v1) + (h (h v0 6) v1))) + 0) (h (h v0 5) v1) → (inI ((7 * ((4 * v1) + (h (h v0 6) v1))) + 1)) ∧ (0 ≤ ((7 * ((4 * v1) + (h (h v0 6) v1))) + 1)) ∧ (((7 * ((4 * v1) + (h (h v0 6) v1))) + 1) < h (h v0 7) (-2)) ∧ ∀ h2, h2 = wr h1 (h v0 7) ((7 * ((4 * v1) + (h (h v0 6) v1))) + 1) v2 → (inI ((7 * ((4 * v1) + (h (h v0 6) v1))) + 2)) ∧ (h (h v0 16) (-1) = 20) ∧ (0 ≤ v1) ∧ (v1 < h (h v0 16) (-2)) ∧ (0 ≤ ((7 * ((4 * v1) + (h (h v0 6) v1))) + 2)) ∧ (((7 * ((4 * v1) + (h (h v0 6) v1))) + 2) < h (h v0 7) (-2)) ∧ ∀ h3, h3 = wr h2 (h v0 7) ((7 * ((4 * v1) + (h (h v0 6) v1))) + 2) (h2 (h v0 16) v1) → (inI ((7 * ((4 * v1) + (h (h v0 6) v1))) + 3)) ∧ (h (h v0 17) (-1) = 20) ∧ (0 ≤ v1) ∧ (v1 < h (h v0 17) (-2)) ∧ (0 ≤ ((7 * ((4 * v1) + (h (h v0 6) v1))) + 3)) ∧ (((7 * ((4 * v1) + (h (h v0 6) v1))) + 3) < h (h v0 7) (-2)) ∧ ∀ h4, h4 = wr h3 (h v0 7) ((7 * ((4 * v1) + (h (h v0 6) v1))) + 3) (h3 (h v0 17) v1) → (inI ((7 * ((4 * v1) + (h (h v0 6) v1))) + 4)) ∧ (0 ≤ ((7 * ((4 * v1) + (h (h v0 6) v1))) + 4)) ∧ (((7 * ((4 * v1) + (h (h v0 6) v1))) + 4) < h (h v0 7) (-2)) ∧ ∀ h5, h5 = wr h4 (h v0 7) ((7 * ((4 * v1) + (h (h v0 6) v1))) + 4) v3 → (inI ((7 * ((4 * v1) + (h (h v0 6) v1))) + 5)) ∧ (0 ≤ ((7 * ((4 * v1) + (h (h v0 6) v1))) + 5)) ∧ (((7 * ((4 * v1) + (h (h v0 6) v1))) + 5) < h (h v0 7) (-2)) ∧ ∀ h6, h6 = wr h5 (h v0 7) ((7 * ((4 * v1) + (h (h v0 6) v1))) + 5) v4 → (inI ((7 * ((4 * v1) + (h (h v0 6) v1))) + 6)) ∧ (0 ≤ ((7 * ((4 * v1) + (h (h v0 6) v1))) + 6)) ∧ (((7 * ((4 * v1) + (h (h v0 6) v1))) + 6) < h (h v0 7) (-2)) ∧ ∀ h7, h7 = wr h6 (h v0 7) ((7 * ((4 * v1) + (h (h v0 6) v1))) + 6) v5 → (0 ≤ v1) ∧ (v1 < h (h v0 6) (-2)) ∧ (inI ((h7 (h v0 6) v1) + 1)) ∧ (0 ≤ v1) ∧ (v1 < h (h v0 6) (-2)) ∧ ∀ h8, h8 = wr h7 (h v0 6) v1 ((h7 (h v0 6) v1) + 1) → (0 ≤ v1) ∧ (v1 < h (h v0 5) (-2)) ∧ (inI ((h8 (h v0 5) v1) + 1)) ∧ (0 ≤ v1) ∧ (v1 < h (h v0 5) (-2)) ∧ ∀ h9, h9 = wr h8 (h v0 5) v1 ((h8 (h v0 5) v1) + 1) → (0 ≤ v1) ∧ (v1 < h (h v0 6) (-2)) ∧ (inI ((h9 (h v0 6) v1) - 1)) ∧ Runs G mm_X10_sendsWork [vR v0, vI v1, vI ((h9 (h v0 6) v1) - 1)] h9 (fun r h' => AW G mm_X10_post b 228 [(0, vR v0), (1, vI v1)] (r.toList ++ []) h' Q)) ∧ ((v6 = 2) → Q (some (vI (-1004))) h)))) ∧ ((¬ ((h (h v0 6) v1) ≤ v7)) → (inI (4 * v1)) ∧ (inI ((4 * v1) + v7)) ∧ (inI (7 * ((4 * v1) + v7))) ∧ (inI ((7 * ((4 * v1) + v7)) + 1)) ∧ (h (h v0 7) (-1) = 20) ∧ (0 ≤ ((7 * ((4 * v1) + v7)) + 1)) ∧ (((7 * ((4 * v1) + v7)) + 1) < h (h v0 7) (-2)) ∧ (((h (h v0 7) ((7 * ((4 * v1) + v7)) + 1)) ≤ 1) → (inI (v6 + 0)) ∧ (inI (v7 + 1)) ∧ AW G mm_X10_post b 20 [(0, vR v0), (1, vI v1), (2, vI v2), (3, vI v3), (4, vI v4), (5, vI v5), (6, vI (v6 + 0)), (7, vI (v7 + 1))] [] h Q) ∧ ((¬ ((h (h v0 7) ((7 * ((4 * v1) + v7)) + 1)) ≤ 1)) → (inI (v6 + 1)) ∧ (inI (v7 + 1)) ∧ AW G mm_X10_post b 20 [(0, vR v0), (1, vI v1), (2, vI v2), (3, vI v3), (4, vI v4), (5, vI v5), (6, vI (v6 + 1)), (7, vI (v7 + 1))] [] h Q))) : AW G mm_X10_post b 20 [(0, vR v0), (1, vI v1), (2, vI v2), (3, vI v3), (4, vI v4), (5, vI v5), (6, vI v6), (7, vI v7)] [] h Q := by
  refine aw_iload 7 dX10_post_20 rfl ?_
  refine aw_aload_n 0 dX10_post_22 rfl rfl ?_
  obtain ⟨o1, k⟩ := k
  refine aw_getR dX10_post_23 fl_X10_28 rfl o1 (x := (h v0 6)) rfl ?_
  refine aw_iload_n 1 dX10_post_26 rfl rfl ?_
  obtain ⟨o2, k⟩ := k
  obtain ⟨o3, k⟩ := k
  obtain ⟨o4, k⟩ := k
  refine aw_iald dX10_post_27 o2 o3 o4 (x := (h (h v0 6) v1)) rfl ?_
  refine aw_icmp_ge (tgt := 67) dX10_post_28 (by decide) (fun hc => ?_) (fun hc => ?_)
  · have k := k.1 hc
    refine aw_aload_n 0 dX10_post_67 rfl rfl ?_
    refine aw_getR dX10_post_68 fl_X10_28 rfl o1 (x := (h v0 6)) rfl ?_
    refine aw_iload_n 1 dX10_post_71 rfl rfl ?_
    obtain ⟨o5, k⟩ := k
    obtain ⟨o6, k⟩ := k
    refine aw_iald dX10_post_72 o2 o5 o6 (x := (h (h v0 6) v1)) rfl ?_
    refine aw_iconst dX10_post_73 ⟨by decide, by decide⟩ ?_
    refine aw_icmp_eq (tgt := 88) dX10_post_74 (by decide) (fun hc => ?_) (fun hc => ?_)
    · have k := k.1 hc
      refine aw_sipush dX10_post_88 ⟨by decide, by decide⟩ (by decide) ?_
      exact aw_iret dX10_post_91 rfl k
    · have k := k.2 hc
      refine aw_iload_n 2 dX10_post_77 rfl rfl ?_
      refine aw_iconst dX10_post_78 ⟨by decide, by decide⟩ ?_
      refine aw_icmp_le (tgt := 92) dX10_post_79 (by decide) (fun hc => ?_) (fun hc => ?_)
      · have k := k.1 hc
        refine aw_bipush dX10_post_92 ⟨by decide, by decide⟩ (by decide) ?_
        refine aw_iconst dX10_post_94 ⟨by decide, by decide⟩ ?_
        refine aw_iload_n 1 dX10_post_95 rfl rfl ?_
        obtain ⟨o7, k⟩ := k
        refine aw_imul dX10_post_96 o7 ?_
        refine aw_aload_n 0 dX10_post_97 rfl rfl ?_
        refine aw_getR dX10_post_98 fl_X10_28 rfl o1 (x := (h v0 6)) rfl ?_
        refine aw_iload_n 1 dX10_post_101 rfl rfl ?_
        obtain ⟨o8, k⟩ := k
        obtain ⟨o9, k⟩ := k
        refine aw_iald dX10_post_102 o2 o8 o9 (x := (h (h v0 6) v1)) rfl ?_
        obtain ⟨o10, k⟩ := k
        refine aw_iadd dX10_post_103 o10 ?_
        obtain ⟨o11, k⟩ := k
        refine aw_imul dX10_post_104 o11 ?_
        refine aw_istore dX10_post_105 (by decide) ?_
        refine aw_aload_n 1 dX10_post_107 rfl rfl ?_
        refine aw_getR dX10_post_108 fl_X10_31 rfl o1 (x := (h v0 7)) rfl ?_
        refine aw_iload 0 dX10_post_111 rfl ?_
        refine aw_iconst dX10_post_113 ⟨by decide, by decide⟩ ?_
        obtain ⟨o12, k⟩ := k
        refine aw_iadd dX10_post_114 o12 ?_
        refine aw_aload_n 1 dX10_post_115 rfl rfl ?_
        refine aw_getR dX10_post_116 fl_X10_25 rfl o1 (x := (h v0 5)) rfl ?_
        refine aw_iload_n 2 dX10_post_119 rfl rfl ?_
        obtain ⟨o13, k⟩ := k
        obtain ⟨o14, k⟩ := k
        obtain ⟨o15, k⟩ := k
        refine aw_iald dX10_post_120 o13 o14 o15 (x := (h (h v0 5) v1)) rfl ?_
        obtain ⟨o16, k⟩ := k
        obtain ⟨o17, k⟩ := k
        obtain ⟨o18, k⟩ := k
        refine aw_iast dX10_post_121 o16 o17 o18 ?_
        refine aw_hp (fun h1 e19 => ?_)
        have k := k h1 e19
        refine aw_aload_n 1 dX10_post_122 rfl rfl ?_
        have q20 := sh_w e19 o17 o1
        refine aw_getR dX10_post_123 fl_X10_31 rfl q20 (x := (h v0 7)) (rd_a e19 v0 7 (ne_sh o16 o1 (by decide))) ?_
        refine aw_iload 0 dX10_post_126 rfl ?_
        refine aw_iconst dX10_post_128 ⟨by decide, by decide⟩ ?_
        obtain ⟨o21, k⟩ := k
        refine aw_iadd dX10_post_129 o21 ?_
        refine aw_iload_n 3 dX10_post_130 rfl rfl ?_
        obtain ⟨o22, k⟩ := k
        obtain ⟨o23, k⟩ := k
        have q24 := sh_w e19 o17 o16
        refine aw_iast dX10_post_131 q24 o22 (lt_l (ln_w e19 (h v0 7) o17) o23) ?_
        refine aw_hp (fun h2 e25 => ?_)
        have k := k h2 e25
        refine aw_aload_n 1 dX10_post_132 rfl rfl ?_
        have q26 := sh_w e25 o22 q20
        refine aw_getR dX10_post_133 fl_X10_31 rfl q26 (x := (h v0 7)) ((rd_a e25 v0 7 (ne_sh q24 q20 (by decide))).trans (rd_a e19 v0 7 (ne_sh o16 o1 (by decide)))) ?_
        refine aw_iload 0 dX10_post_136 rfl ?_
        refine aw_iconst dX10_post_138 ⟨by decide, by decide⟩ ?_
        obtain ⟨o27, k⟩ := k
        refine aw_iadd dX10_post_139 o27 ?_
        refine aw_aload_n 1 dX10_post_140 rfl rfl ?_
        refine aw_getR dX10_post_141 fl_X10_59 rfl q26 (x := (h v0 16)) ((rd_a e25 v0 16 (ne_sh q24 q20 (by decide))).trans (rd_a e19 v0 16 (ne_sh o16 o1 (by decide)))) ?_
        refine aw_iload_n 2 dX10_post_144 rfl rfl ?_
        obtain ⟨o28, k⟩ := k
        obtain ⟨o29, k⟩ := k
        obtain ⟨o30, k⟩ := k
        have q31 := sh_w e19 o17 o28
        have q32 := sh_w e25 o22 q31
        refine aw_iald dX10_post_145 q32 o29 (lt_l ((ln_w e25 (h v0 16) o22).trans (ln_w e19 (h v0 16) o17)) o30) (x := (h2 (h v0 16) v1)) rfl ?_
        obtain ⟨o33, k⟩ := k
        obtain ⟨o34, k⟩ := k
        have q35 := sh_w e25 o22 q24
        refine aw_iast dX10_post_146 q35 o33 (lt_l ((ln_w e25 (h v0 7) o22).trans (ln_w e19 (h v0 7) o17)) o34) ?_
        refine aw_hp (fun h3 e36 => ?_)
        have k := k h3 e36
        refine aw_aload_n 1 dX10_post_147 rfl rfl ?_
        have q37 := sh_w e36 o33 q26
        refine aw_getR dX10_post_148 fl_X10_31 rfl q37 (x := (h v0 7)) ((rd_a e36 v0 7 (ne_sh q35 q26 (by decide))).trans ((rd_a e25 v0 7 (ne_sh q24 q20 (by decide))).trans (rd_a e19 v0 7 (ne_sh o16 o1 (by decide))))) ?_
        refine aw_iload 0 dX10_post_151 rfl ?_
        refine aw_iconst dX10_post_153 ⟨by decide, by decide⟩ ?_
        obtain ⟨o38, k⟩ := k
        refine aw_iadd dX10_post_154 o38 ?_
        refine aw_aload_n 1 dX10_post_155 rfl rfl ?_
        refine aw_getR dX10_post_156 fl_X10_62 rfl q37 (x := (h v0 17)) ((rd_a e36 v0 17 (ne_sh q35 q26 (by decide))).trans ((rd_a e25 v0 17 (ne_sh q24 q20 (by decide))).trans (rd_a e19 v0 17 (ne_sh o16 o1 (by decide))))) ?_
        refine aw_iload_n 2 dX10_post_159 rfl rfl ?_
        obtain ⟨o39, k⟩ := k
        obtain ⟨o40, k⟩ := k
        obtain ⟨o41, k⟩ := k
        have q42 := sh_w e19 o17 o39
        have q43 := sh_w e25 o22 q42
        have q44 := sh_w e36 o33 q43
        refine aw_iald dX10_post_160 q44 o40 (lt_l ((ln_w e36 (h v0 17) o33).trans ((ln_w e25 (h v0 17) o22).trans (ln_w e19 (h v0 17) o17))) o41) (x := (h3 (h v0 17) v1)) rfl ?_
        obtain ⟨o45, k⟩ := k
        obtain ⟨o46, k⟩ := k
        have q47 := sh_w e36 o33 q35
        refine aw_iast dX10_post_161 q47 o45 (lt_l ((ln_w e36 (h v0 7) o33).trans ((ln_w e25 (h v0 7) o22).trans (ln_w e19 (h v0 7) o17))) o46) ?_
        refine aw_hp (fun h4 e48 => ?_)
        have k := k h4 e48
        refine aw_aload_n 1 dX10_post_162 rfl rfl ?_
        have q49 := sh_w e48 o45 q37
        refine aw_getR dX10_post_163 fl_X10_31 rfl q49 (x := (h v0 7)) ((rd_a e48 v0 7 (ne_sh q47 q37 (by decide))).trans ((rd_a e36 v0 7 (ne_sh q35 q26 (by decide))).trans ((rd_a e25 v0 7 (ne_sh q24 q20 (by decide))).trans (rd_a e19 v0 7 (ne_sh o16 o1 (by decide)))))) ?_
        refine aw_iload 0 dX10_post_166 rfl ?_
        refine aw_iconst dX10_post_168 ⟨by decide, by decide⟩ ?_
        obtain ⟨o50, k⟩ := k
        refine aw_iadd dX10_post_169 o50 ?_
        refine aw_iload_n 4 dX10_post_170 rfl rfl ?_
        obtain ⟨o51, k⟩ := k
        obtain ⟨o52, k⟩ := k
        have q53 := sh_w e48 o45 q47
        refine aw_iast dX10_post_171 q53 o51 (lt_l ((ln_w e48 (h v0 7) o45).trans ((ln_w e36 (h v0 7) o33).trans ((ln_w e25 (h v0 7) o22).trans (ln_w e19 (h v0 7) o17)))) o52) ?_
        refine aw_hp (fun h5 e54 => ?_)
        have k := k h5 e54
        refine aw_aload_n 1 dX10_post_172 rfl rfl ?_
        have q55 := sh_w e54 o51 q49
        refine aw_getR dX10_post_173 fl_X10_31 rfl q55 (x := (h v0 7)) ((rd_a e54 v0 7 (ne_sh q53 q49 (by decide))).trans ((rd_a e48 v0 7 (ne_sh q47 q37 (by decide))).trans ((rd_a e36 v0 7 (ne_sh q35 q26 (by decide))).trans ((rd_a e25 v0 7 (ne_sh q24 q20 (by decide))).trans (rd_a e19 v0 7 (ne_sh o16 o1 (by decide))))))) ?_
        refine aw_iload 0 dX10_post_176 rfl ?_
        refine aw_iconst dX10_post_178 ⟨by decide, by decide⟩ ?_
        obtain ⟨o56, k⟩ := k
        refine aw_iadd dX10_post_179 o56 ?_
        refine aw_iload 5 dX10_post_180 rfl ?_
        obtain ⟨o57, k⟩ := k
        obtain ⟨o58, k⟩ := k
        have q59 := sh_w e54 o51 q53
        refine aw_iast dX10_post_182 q59 o57 (lt_l ((ln_w e54 (h v0 7) o51).trans ((ln_w e48 (h v0 7) o45).trans ((ln_w e36 (h v0 7) o33).trans ((ln_w e25 (h v0 7) o22).trans (ln_w e19 (h v0 7) o17))))) o58) ?_
        refine aw_hp (fun h6 e60 => ?_)
        have k := k h6 e60
        refine aw_aload_n 1 dX10_post_183 rfl rfl ?_
        have q61 := sh_w e60 o57 q55
        refine aw_getR dX10_post_184 fl_X10_31 rfl q61 (x := (h v0 7)) ((rd_a e60 v0 7 (ne_sh q59 q55 (by decide))).trans ((rd_a e54 v0 7 (ne_sh q53 q49 (by decide))).trans ((rd_a e48 v0 7 (ne_sh q47 q37 (by decide))).trans ((rd_a e36 v0 7 (ne_sh q35 q26 (by decide))).trans ((rd_a e25 v0 7 (ne_sh q24 q20 (by decide))).trans (rd_a e19 v0 7 (ne_sh o16 o1 (by decide)))))))) ?_
        refine aw_iload 0 dX10_post_187 rfl ?_
        refine aw_bipush dX10_post_189 ⟨by decide, by decide⟩ (by decide) ?_
        obtain ⟨o62, k⟩ := k
        refine aw_iadd dX10_post_191 o62 ?_
        refine aw_iload 6 dX10_post_192 rfl ?_
        obtain ⟨o63, k⟩ := k
        obtain ⟨o64, k⟩ := k
        have q65 := sh_w e60 o57 q59
        refine aw_iast dX10_post_194 q65 o63 (lt_l ((ln_w e60 (h v0 7) o57).trans ((ln_w e54 (h v0 7) o51).trans ((ln_w e48 (h v0 7) o45).trans ((ln_w e36 (h v0 7) o33).trans ((ln_w e25 (h v0 7) o22).trans (ln_w e19 (h v0 7) o17)))))) o64) ?_
        refine aw_hp (fun h7 e66 => ?_)
        have k := k h7 e66
        refine aw_aload_n 1 dX10_post_195 rfl rfl ?_
        have q67 := sh_w e66 o63 q61
        refine aw_getR dX10_post_196 fl_X10_28 rfl q67 (x := (h v0 6)) ((rd_a e66 v0 6 (ne_sh q65 q61 (by decide))).trans ((rd_a e60 v0 6 (ne_sh q59 q55 (by decide))).trans ((rd_a e54 v0 6 (ne_sh q53 q49 (by decide))).trans ((rd_a e48 v0 6 (ne_sh q47 q37 (by decide))).trans ((rd_a e36 v0 6 (ne_sh q35 q26 (by decide))).trans ((rd_a e25 v0 6 (ne_sh q24 q20 (by decide))).trans (rd_a e19 v0 6 (ne_sh o16 o1 (by decide))))))))) ?_
        refine aw_iload_n 2 dX10_post_199 rfl rfl ?_
        refine aw_dup2 dX10_post_200 rfl rfl ?_
        obtain ⟨o68, k⟩ := k
        obtain ⟨o69, k⟩ := k
        have q70 := sh_w e19 o17 o2
        have q71 := sh_w e25 o22 q70
        have q72 := sh_w e36 o33 q71
        have q73 := sh_w e48 o45 q72
        have q74 := sh_w e54 o51 q73
        have q75 := sh_w e60 o57 q74
        have q76 := sh_w e66 o63 q75
        refine aw_iald dX10_post_201 q76 o68 (lt_l ((ln_w e66 (h v0 6) o63).trans ((ln_w e60 (h v0 6) o57).trans ((ln_w e54 (h v0 6) o51).trans ((ln_w e48 (h v0 6) o45).trans ((ln_w e36 (h v0 6) o33).trans ((ln_w e25 (h v0 6) o22).trans (ln_w e19 (h v0 6) o17))))))) o69) (x := (h7 (h v0 6) v1)) rfl ?_
        refine aw_iconst dX10_post_202 ⟨by decide, by decide⟩ ?_
        obtain ⟨o77, k⟩ := k
        refine aw_iadd dX10_post_203 o77 ?_
        obtain ⟨o78, k⟩ := k
        obtain ⟨o79, k⟩ := k
        refine aw_iast dX10_post_204 q76 o78 (lt_l ((ln_w e66 (h v0 6) o63).trans ((ln_w e60 (h v0 6) o57).trans ((ln_w e54 (h v0 6) o51).trans ((ln_w e48 (h v0 6) o45).trans ((ln_w e36 (h v0 6) o33).trans ((ln_w e25 (h v0 6) o22).trans (ln_w e19 (h v0 6) o17))))))) o79) ?_
        refine aw_hp (fun h8 e80 => ?_)
        have k := k h8 e80
        refine aw_aload_n 1 dX10_post_205 rfl rfl ?_
        have q81 := sh_w e80 o78 q67
        refine aw_getR dX10_post_206 fl_X10_25 rfl q81 (x := (h v0 5)) ((rd_a e80 v0 5 (ne_sh q76 q67 (by decide))).trans ((rd_a e66 v0 5 (ne_sh q65 q61 (by decide))).trans ((rd_a e60 v0 5 (ne_sh q59 q55 (by decide))).trans ((rd_a e54 v0 5 (ne_sh q53 q49 (by decide))).trans ((rd_a e48 v0 5 (ne_sh q47 q37 (by decide))).trans ((rd_a e36 v0 5 (ne_sh q35 q26 (by decide))).trans ((rd_a e25 v0 5 (ne_sh q24 q20 (by decide))).trans (rd_a e19 v0 5 (ne_sh o16 o1 (by decide)))))))))) ?_
        refine aw_iload_n 2 dX10_post_209 rfl rfl ?_
        refine aw_dup2 dX10_post_210 rfl rfl ?_
        obtain ⟨o82, k⟩ := k
        obtain ⟨o83, k⟩ := k
        have q84 := sh_w e19 o17 o13
        have q85 := sh_w e25 o22 q84
        have q86 := sh_w e36 o33 q85
        have q87 := sh_w e48 o45 q86
        have q88 := sh_w e54 o51 q87
        have q89 := sh_w e60 o57 q88
        have q90 := sh_w e66 o63 q89
        have q91 := sh_w e80 o78 q90
        refine aw_iald dX10_post_211 q91 o82 (lt_l ((ln_w e80 (h v0 5) o78).trans ((ln_w e66 (h v0 5) o63).trans ((ln_w e60 (h v0 5) o57).trans ((ln_w e54 (h v0 5) o51).trans ((ln_w e48 (h v0 5) o45).trans ((ln_w e36 (h v0 5) o33).trans ((ln_w e25 (h v0 5) o22).trans (ln_w e19 (h v0 5) o17)))))))) o83) (x := (h8 (h v0 5) v1)) rfl ?_
        refine aw_iconst dX10_post_212 ⟨by decide, by decide⟩ ?_
        obtain ⟨o92, k⟩ := k
        refine aw_iadd dX10_post_213 o92 ?_
        obtain ⟨o93, k⟩ := k
        obtain ⟨o94, k⟩ := k
        refine aw_iast dX10_post_214 q91 o93 (lt_l ((ln_w e80 (h v0 5) o78).trans ((ln_w e66 (h v0 5) o63).trans ((ln_w e60 (h v0 5) o57).trans ((ln_w e54 (h v0 5) o51).trans ((ln_w e48 (h v0 5) o45).trans ((ln_w e36 (h v0 5) o33).trans ((ln_w e25 (h v0 5) o22).trans (ln_w e19 (h v0 5) o17)))))))) o94) ?_
        refine aw_hp (fun h9 e95 => ?_)
        have k := k h9 e95
        refine aw_aload_n 1 dX10_post_215 rfl rfl ?_
        refine aw_iload_n 2 dX10_post_216 rfl rfl ?_
        refine aw_aload_n 1 dX10_post_217 rfl rfl ?_
        have q96 := sh_w e95 o93 q81
        refine aw_getR dX10_post_218 fl_X10_28 rfl q96 (x := (h v0 6)) ((rd_a e95 v0 6 (ne_sh q91 q81 (by decide))).trans ((rd_a e80 v0 6 (ne_sh q76 q67 (by decide))).trans ((rd_a e66 v0 6 (ne_sh q65 q61 (by decide))).trans ((rd_a e60 v0 6 (ne_sh q59 q55 (by decide))).trans ((rd_a e54 v0 6 (ne_sh q53 q49 (by decide))).trans ((rd_a e48 v0 6 (ne_sh q47 q37 (by decide))).trans ((rd_a e36 v0 6 (ne_sh q35 q26 (by decide))).trans ((rd_a e25 v0 6 (ne_sh q24 q20 (by decide))).trans (rd_a e19 v0 6 (ne_sh o16 o1 (by decide))))))))))) ?_
        refine aw_iload_n 2 dX10_post_221 rfl rfl ?_
        obtain ⟨o97, k⟩ := k
        obtain ⟨o98, k⟩ := k
        have q99 := sh_w e80 o78 q76
        have q100 := sh_w e95 o93 q99
        refine aw_iald dX10_post_222 q100 o97 (lt_l ((ln_w e95 (h v0 6) o93).trans ((ln_w e80 (h v0 6) o78).trans ((ln_w e66 (h v0 6) o63).trans ((ln_w e60 (h v0 6) o57).trans ((ln_w e54 (h v0 6) o51).trans ((ln_w e48 (h v0 6) o45).trans ((ln_w e36 (h v0 6) o33).trans ((ln_w e25 (h v0 6) o22).trans (ln_w e19 (h v0 6) o17))))))))) o98) (x := (h9 (h v0 6) v1)) rfl ?_
        refine aw_iconst dX10_post_223 ⟨by decide, by decide⟩ ?_
        obtain ⟨o101, k⟩ := k
        refine aw_isub dX10_post_224 o101 ?_
        refine aw_callV (M' := mm_X10_sendsWork) 10 [vI v1, vI ((h9 (h v0 6) v1) - 1)] [] lk_X10_251 ⟨_, rfl, rfl⟩ dX10_post_225 rfl (Nat.le_of_ble_eq_true rfl) ⟨by decide, by decide, Nat.zero_le _, Nat.zero_le _⟩ q96 ?_
        exact k.mono (fun _ _ z => aw_sub [1, 2] rfl z)
      · have k := k.2 hc
        refine aw_iload 6 dX10_post_82 rfl ?_
        refine aw_iconst dX10_post_84 ⟨by decide, by decide⟩ ?_
        refine aw_icmp_ne (tgt := 92) dX10_post_85 (by decide) (fun hc => ?_) (fun hc => ?_)
        · have k := k.1 hc
          refine aw_bipush dX10_post_92 ⟨by decide, by decide⟩ (by decide) ?_
          refine aw_iconst dX10_post_94 ⟨by decide, by decide⟩ ?_
          refine aw_iload_n 1 dX10_post_95 rfl rfl ?_
          obtain ⟨o102, k⟩ := k
          refine aw_imul dX10_post_96 o102 ?_
          refine aw_aload_n 0 dX10_post_97 rfl rfl ?_
          refine aw_getR dX10_post_98 fl_X10_28 rfl o1 (x := (h v0 6)) rfl ?_
          refine aw_iload_n 1 dX10_post_101 rfl rfl ?_
          obtain ⟨o103, k⟩ := k
          obtain ⟨o104, k⟩ := k
          refine aw_iald dX10_post_102 o2 o103 o104 (x := (h (h v0 6) v1)) rfl ?_
          obtain ⟨o105, k⟩ := k
          refine aw_iadd dX10_post_103 o105 ?_
          obtain ⟨o106, k⟩ := k
          refine aw_imul dX10_post_104 o106 ?_
          refine aw_istore dX10_post_105 (by decide) ?_
          refine aw_aload_n 1 dX10_post_107 rfl rfl ?_
          refine aw_getR dX10_post_108 fl_X10_31 rfl o1 (x := (h v0 7)) rfl ?_
          refine aw_iload 0 dX10_post_111 rfl ?_
          refine aw_iconst dX10_post_113 ⟨by decide, by decide⟩ ?_
          obtain ⟨o107, k⟩ := k
          refine aw_iadd dX10_post_114 o107 ?_
          refine aw_aload_n 1 dX10_post_115 rfl rfl ?_
          refine aw_getR dX10_post_116 fl_X10_25 rfl o1 (x := (h v0 5)) rfl ?_
          refine aw_iload_n 2 dX10_post_119 rfl rfl ?_
          obtain ⟨o108, k⟩ := k
          obtain ⟨o109, k⟩ := k
          obtain ⟨o110, k⟩ := k
          refine aw_iald dX10_post_120 o108 o109 o110 (x := (h (h v0 5) v1)) rfl ?_
          obtain ⟨o111, k⟩ := k
          obtain ⟨o112, k⟩ := k
          obtain ⟨o113, k⟩ := k
          refine aw_iast dX10_post_121 o111 o112 o113 ?_
          refine aw_hp (fun h1 e114 => ?_)
          have k := k h1 e114
          refine aw_aload_n 1 dX10_post_122 rfl rfl ?_
          have q115 := sh_w e114 o112 o1
          refine aw_getR dX10_post_123 fl_X10_31 rfl q115 (x := (h v0 7)) (rd_a e114 v0 7 (ne_sh o111 o1 (by decide))) ?_
          refine aw_iload 0 dX10_post_126 rfl ?_
          refine aw_iconst dX10_post_128 ⟨by decide, by decide⟩ ?_
          obtain ⟨o116, k⟩ := k
          refine aw_iadd dX10_post_129 o116 ?_
          refine aw_iload_n 3 dX10_post_130 rfl rfl ?_
          obtain ⟨o117, k⟩ := k
          obtain ⟨o118, k⟩ := k
          have q119 := sh_w e114 o112 o111
          refine aw_iast dX10_post_131 q119 o117 (lt_l (ln_w e114 (h v0 7) o112) o118) ?_
          refine aw_hp (fun h2 e120 => ?_)
          have k := k h2 e120
          refine aw_aload_n 1 dX10_post_132 rfl rfl ?_
          have q121 := sh_w e120 o117 q115
          refine aw_getR dX10_post_133 fl_X10_31 rfl q121 (x := (h v0 7)) ((rd_a e120 v0 7 (ne_sh q119 q115 (by decide))).trans (rd_a e114 v0 7 (ne_sh o111 o1 (by decide)))) ?_
          refine aw_iload 0 dX10_post_136 rfl ?_
          refine aw_iconst dX10_post_138 ⟨by decide, by decide⟩ ?_
          obtain ⟨o122, k⟩ := k
          refine aw_iadd dX10_post_139 o122 ?_
          refine aw_aload_n 1 dX10_post_140 rfl rfl ?_
          refine aw_getR dX10_post_141 fl_X10_59 rfl q121 (x := (h v0 16)) ((rd_a e120 v0 16 (ne_sh q119 q115 (by decide))).trans (rd_a e114 v0 16 (ne_sh o111 o1 (by decide)))) ?_
          refine aw_iload_n 2 dX10_post_144 rfl rfl ?_
          obtain ⟨o123, k⟩ := k
          obtain ⟨o124, k⟩ := k
          obtain ⟨o125, k⟩ := k
          have q126 := sh_w e114 o112 o123
          have q127 := sh_w e120 o117 q126
          refine aw_iald dX10_post_145 q127 o124 (lt_l ((ln_w e120 (h v0 16) o117).trans (ln_w e114 (h v0 16) o112)) o125) (x := (h2 (h v0 16) v1)) rfl ?_
          obtain ⟨o128, k⟩ := k
          obtain ⟨o129, k⟩ := k
          have q130 := sh_w e120 o117 q119
          refine aw_iast dX10_post_146 q130 o128 (lt_l ((ln_w e120 (h v0 7) o117).trans (ln_w e114 (h v0 7) o112)) o129) ?_
          refine aw_hp (fun h3 e131 => ?_)
          have k := k h3 e131
          refine aw_aload_n 1 dX10_post_147 rfl rfl ?_
          have q132 := sh_w e131 o128 q121
          refine aw_getR dX10_post_148 fl_X10_31 rfl q132 (x := (h v0 7)) ((rd_a e131 v0 7 (ne_sh q130 q121 (by decide))).trans ((rd_a e120 v0 7 (ne_sh q119 q115 (by decide))).trans (rd_a e114 v0 7 (ne_sh o111 o1 (by decide))))) ?_
          refine aw_iload 0 dX10_post_151 rfl ?_
          refine aw_iconst dX10_post_153 ⟨by decide, by decide⟩ ?_
          obtain ⟨o133, k⟩ := k
          refine aw_iadd dX10_post_154 o133 ?_
          refine aw_aload_n 1 dX10_post_155 rfl rfl ?_
          refine aw_getR dX10_post_156 fl_X10_62 rfl q132 (x := (h v0 17)) ((rd_a e131 v0 17 (ne_sh q130 q121 (by decide))).trans ((rd_a e120 v0 17 (ne_sh q119 q115 (by decide))).trans (rd_a e114 v0 17 (ne_sh o111 o1 (by decide))))) ?_
          refine aw_iload_n 2 dX10_post_159 rfl rfl ?_
          obtain ⟨o134, k⟩ := k
          obtain ⟨o135, k⟩ := k
          obtain ⟨o136, k⟩ := k
          have q137 := sh_w e114 o112 o134
          have q138 := sh_w e120 o117 q137
          have q139 := sh_w e131 o128 q138
          refine aw_iald dX10_post_160 q139 o135 (lt_l ((ln_w e131 (h v0 17) o128).trans ((ln_w e120 (h v0 17) o117).trans (ln_w e114 (h v0 17) o112))) o136) (x := (h3 (h v0 17) v1)) rfl ?_
          obtain ⟨o140, k⟩ := k
          obtain ⟨o141, k⟩ := k
          have q142 := sh_w e131 o128 q130
          refine aw_iast dX10_post_161 q142 o140 (lt_l ((ln_w e131 (h v0 7) o128).trans ((ln_w e120 (h v0 7) o117).trans (ln_w e114 (h v0 7) o112))) o141) ?_
          refine aw_hp (fun h4 e143 => ?_)
          have k := k h4 e143
          refine aw_aload_n 1 dX10_post_162 rfl rfl ?_
          have q144 := sh_w e143 o140 q132
          refine aw_getR dX10_post_163 fl_X10_31 rfl q144 (x := (h v0 7)) ((rd_a e143 v0 7 (ne_sh q142 q132 (by decide))).trans ((rd_a e131 v0 7 (ne_sh q130 q121 (by decide))).trans ((rd_a e120 v0 7 (ne_sh q119 q115 (by decide))).trans (rd_a e114 v0 7 (ne_sh o111 o1 (by decide)))))) ?_
          refine aw_iload 0 dX10_post_166 rfl ?_
          refine aw_iconst dX10_post_168 ⟨by decide, by decide⟩ ?_
          obtain ⟨o145, k⟩ := k
          refine aw_iadd dX10_post_169 o145 ?_
          refine aw_iload_n 4 dX10_post_170 rfl rfl ?_
          obtain ⟨o146, k⟩ := k
          obtain ⟨o147, k⟩ := k
          have q148 := sh_w e143 o140 q142
          refine aw_iast dX10_post_171 q148 o146 (lt_l ((ln_w e143 (h v0 7) o140).trans ((ln_w e131 (h v0 7) o128).trans ((ln_w e120 (h v0 7) o117).trans (ln_w e114 (h v0 7) o112)))) o147) ?_
          refine aw_hp (fun h5 e149 => ?_)
          have k := k h5 e149
          refine aw_aload_n 1 dX10_post_172 rfl rfl ?_
          have q150 := sh_w e149 o146 q144
          refine aw_getR dX10_post_173 fl_X10_31 rfl q150 (x := (h v0 7)) ((rd_a e149 v0 7 (ne_sh q148 q144 (by decide))).trans ((rd_a e143 v0 7 (ne_sh q142 q132 (by decide))).trans ((rd_a e131 v0 7 (ne_sh q130 q121 (by decide))).trans ((rd_a e120 v0 7 (ne_sh q119 q115 (by decide))).trans (rd_a e114 v0 7 (ne_sh o111 o1 (by decide))))))) ?_
          refine aw_iload 0 dX10_post_176 rfl ?_
          refine aw_iconst dX10_post_178 ⟨by decide, by decide⟩ ?_
          obtain ⟨o151, k⟩ := k
          refine aw_iadd dX10_post_179 o151 ?_
          refine aw_iload 5 dX10_post_180 rfl ?_
          obtain ⟨o152, k⟩ := k
          obtain ⟨o153, k⟩ := k
          have q154 := sh_w e149 o146 q148
          refine aw_iast dX10_post_182 q154 o152 (lt_l ((ln_w e149 (h v0 7) o146).trans ((ln_w e143 (h v0 7) o140).trans ((ln_w e131 (h v0 7) o128).trans ((ln_w e120 (h v0 7) o117).trans (ln_w e114 (h v0 7) o112))))) o153) ?_
          refine aw_hp (fun h6 e155 => ?_)
          have k := k h6 e155
          refine aw_aload_n 1 dX10_post_183 rfl rfl ?_
          have q156 := sh_w e155 o152 q150
          refine aw_getR dX10_post_184 fl_X10_31 rfl q156 (x := (h v0 7)) ((rd_a e155 v0 7 (ne_sh q154 q150 (by decide))).trans ((rd_a e149 v0 7 (ne_sh q148 q144 (by decide))).trans ((rd_a e143 v0 7 (ne_sh q142 q132 (by decide))).trans ((rd_a e131 v0 7 (ne_sh q130 q121 (by decide))).trans ((rd_a e120 v0 7 (ne_sh q119 q115 (by decide))).trans (rd_a e114 v0 7 (ne_sh o111 o1 (by decide)))))))) ?_
          refine aw_iload 0 dX10_post_187 rfl ?_
          refine aw_bipush dX10_post_189 ⟨by decide, by decide⟩ (by decide) ?_
          obtain ⟨o157, k⟩ := k
          refine aw_iadd dX10_post_191 o157 ?_
          refine aw_iload 6 dX10_post_192 rfl ?_
          obtain ⟨o158, k⟩ := k
          obtain ⟨o159, k⟩ := k
          have q160 := sh_w e155 o152 q154
          refine aw_iast dX10_post_194 q160 o158 (lt_l ((ln_w e155 (h v0 7) o152).trans ((ln_w e149 (h v0 7) o146).trans ((ln_w e143 (h v0 7) o140).trans ((ln_w e131 (h v0 7) o128).trans ((ln_w e120 (h v0 7) o117).trans (ln_w e114 (h v0 7) o112)))))) o159) ?_
          refine aw_hp (fun h7 e161 => ?_)
          have k := k h7 e161
          refine aw_aload_n 1 dX10_post_195 rfl rfl ?_
          have q162 := sh_w e161 o158 q156
          refine aw_getR dX10_post_196 fl_X10_28 rfl q162 (x := (h v0 6)) ((rd_a e161 v0 6 (ne_sh q160 q156 (by decide))).trans ((rd_a e155 v0 6 (ne_sh q154 q150 (by decide))).trans ((rd_a e149 v0 6 (ne_sh q148 q144 (by decide))).trans ((rd_a e143 v0 6 (ne_sh q142 q132 (by decide))).trans ((rd_a e131 v0 6 (ne_sh q130 q121 (by decide))).trans ((rd_a e120 v0 6 (ne_sh q119 q115 (by decide))).trans (rd_a e114 v0 6 (ne_sh o111 o1 (by decide))))))))) ?_
          refine aw_iload_n 2 dX10_post_199 rfl rfl ?_
          refine aw_dup2 dX10_post_200 rfl rfl ?_
          obtain ⟨o163, k⟩ := k
          obtain ⟨o164, k⟩ := k
          have q165 := sh_w e114 o112 o2
          have q166 := sh_w e120 o117 q165
          have q167 := sh_w e131 o128 q166
          have q168 := sh_w e143 o140 q167
          have q169 := sh_w e149 o146 q168
          have q170 := sh_w e155 o152 q169
          have q171 := sh_w e161 o158 q170
          refine aw_iald dX10_post_201 q171 o163 (lt_l ((ln_w e161 (h v0 6) o158).trans ((ln_w e155 (h v0 6) o152).trans ((ln_w e149 (h v0 6) o146).trans ((ln_w e143 (h v0 6) o140).trans ((ln_w e131 (h v0 6) o128).trans ((ln_w e120 (h v0 6) o117).trans (ln_w e114 (h v0 6) o112))))))) o164) (x := (h7 (h v0 6) v1)) rfl ?_
          refine aw_iconst dX10_post_202 ⟨by decide, by decide⟩ ?_
          obtain ⟨o172, k⟩ := k
          refine aw_iadd dX10_post_203 o172 ?_
          obtain ⟨o173, k⟩ := k
          obtain ⟨o174, k⟩ := k
          refine aw_iast dX10_post_204 q171 o173 (lt_l ((ln_w e161 (h v0 6) o158).trans ((ln_w e155 (h v0 6) o152).trans ((ln_w e149 (h v0 6) o146).trans ((ln_w e143 (h v0 6) o140).trans ((ln_w e131 (h v0 6) o128).trans ((ln_w e120 (h v0 6) o117).trans (ln_w e114 (h v0 6) o112))))))) o174) ?_
          refine aw_hp (fun h8 e175 => ?_)
          have k := k h8 e175
          refine aw_aload_n 1 dX10_post_205 rfl rfl ?_
          have q176 := sh_w e175 o173 q162
          refine aw_getR dX10_post_206 fl_X10_25 rfl q176 (x := (h v0 5)) ((rd_a e175 v0 5 (ne_sh q171 q162 (by decide))).trans ((rd_a e161 v0 5 (ne_sh q160 q156 (by decide))).trans ((rd_a e155 v0 5 (ne_sh q154 q150 (by decide))).trans ((rd_a e149 v0 5 (ne_sh q148 q144 (by decide))).trans ((rd_a e143 v0 5 (ne_sh q142 q132 (by decide))).trans ((rd_a e131 v0 5 (ne_sh q130 q121 (by decide))).trans ((rd_a e120 v0 5 (ne_sh q119 q115 (by decide))).trans (rd_a e114 v0 5 (ne_sh o111 o1 (by decide)))))))))) ?_
          refine aw_iload_n 2 dX10_post_209 rfl rfl ?_
          refine aw_dup2 dX10_post_210 rfl rfl ?_
          obtain ⟨o177, k⟩ := k
          obtain ⟨o178, k⟩ := k
          have q179 := sh_w e114 o112 o108
          have q180 := sh_w e120 o117 q179
          have q181 := sh_w e131 o128 q180
          have q182 := sh_w e143 o140 q181
          have q183 := sh_w e149 o146 q182
          have q184 := sh_w e155 o152 q183
          have q185 := sh_w e161 o158 q184
          have q186 := sh_w e175 o173 q185
          refine aw_iald dX10_post_211 q186 o177 (lt_l ((ln_w e175 (h v0 5) o173).trans ((ln_w e161 (h v0 5) o158).trans ((ln_w e155 (h v0 5) o152).trans ((ln_w e149 (h v0 5) o146).trans ((ln_w e143 (h v0 5) o140).trans ((ln_w e131 (h v0 5) o128).trans ((ln_w e120 (h v0 5) o117).trans (ln_w e114 (h v0 5) o112)))))))) o178) (x := (h8 (h v0 5) v1)) rfl ?_
          refine aw_iconst dX10_post_212 ⟨by decide, by decide⟩ ?_
          obtain ⟨o187, k⟩ := k
          refine aw_iadd dX10_post_213 o187 ?_
          obtain ⟨o188, k⟩ := k
          obtain ⟨o189, k⟩ := k
          refine aw_iast dX10_post_214 q186 o188 (lt_l ((ln_w e175 (h v0 5) o173).trans ((ln_w e161 (h v0 5) o158).trans ((ln_w e155 (h v0 5) o152).trans ((ln_w e149 (h v0 5) o146).trans ((ln_w e143 (h v0 5) o140).trans ((ln_w e131 (h v0 5) o128).trans ((ln_w e120 (h v0 5) o117).trans (ln_w e114 (h v0 5) o112)))))))) o189) ?_
          refine aw_hp (fun h9 e190 => ?_)
          have k := k h9 e190
          refine aw_aload_n 1 dX10_post_215 rfl rfl ?_
          refine aw_iload_n 2 dX10_post_216 rfl rfl ?_
          refine aw_aload_n 1 dX10_post_217 rfl rfl ?_
          have q191 := sh_w e190 o188 q176
          refine aw_getR dX10_post_218 fl_X10_28 rfl q191 (x := (h v0 6)) ((rd_a e190 v0 6 (ne_sh q186 q176 (by decide))).trans ((rd_a e175 v0 6 (ne_sh q171 q162 (by decide))).trans ((rd_a e161 v0 6 (ne_sh q160 q156 (by decide))).trans ((rd_a e155 v0 6 (ne_sh q154 q150 (by decide))).trans ((rd_a e149 v0 6 (ne_sh q148 q144 (by decide))).trans ((rd_a e143 v0 6 (ne_sh q142 q132 (by decide))).trans ((rd_a e131 v0 6 (ne_sh q130 q121 (by decide))).trans ((rd_a e120 v0 6 (ne_sh q119 q115 (by decide))).trans (rd_a e114 v0 6 (ne_sh o111 o1 (by decide))))))))))) ?_
          refine aw_iload_n 2 dX10_post_221 rfl rfl ?_
          obtain ⟨o192, k⟩ := k
          obtain ⟨o193, k⟩ := k
          have q194 := sh_w e175 o173 q171
          have q195 := sh_w e190 o188 q194
          refine aw_iald dX10_post_222 q195 o192 (lt_l ((ln_w e190 (h v0 6) o188).trans ((ln_w e175 (h v0 6) o173).trans ((ln_w e161 (h v0 6) o158).trans ((ln_w e155 (h v0 6) o152).trans ((ln_w e149 (h v0 6) o146).trans ((ln_w e143 (h v0 6) o140).trans ((ln_w e131 (h v0 6) o128).trans ((ln_w e120 (h v0 6) o117).trans (ln_w e114 (h v0 6) o112))))))))) o193) (x := (h9 (h v0 6) v1)) rfl ?_
          refine aw_iconst dX10_post_223 ⟨by decide, by decide⟩ ?_
          obtain ⟨o196, k⟩ := k
          refine aw_isub dX10_post_224 o196 ?_
          refine aw_callV (M' := mm_X10_sendsWork) 10 [vI v1, vI ((h9 (h v0 6) v1) - 1)] [] lk_X10_251 ⟨_, rfl, rfl⟩ dX10_post_225 rfl (Nat.le_of_ble_eq_true rfl) ⟨by decide, by decide, Nat.zero_le _, Nat.zero_le _⟩ q191 ?_
          exact k.mono (fun _ _ z => aw_sub [1, 2] rfl z)
        · have k := k.2 hc
          refine aw_sipush dX10_post_88 ⟨by decide, by decide⟩ (by decide) ?_
          exact aw_iret dX10_post_91 rfl k
  · have k := k.2 hc
    refine aw_iload 6 dX10_post_31 rfl ?_
    refine aw_aload_n 0 dX10_post_33 rfl rfl ?_
    refine aw_getR dX10_post_34 fl_X10_31 rfl o1 (x := (h v0 7)) rfl ?_
    refine aw_bipush dX10_post_37 ⟨by decide, by decide⟩ (by decide) ?_
    refine aw_iconst dX10_post_39 ⟨by decide, by decide⟩ ?_
    refine aw_iload_n 1 dX10_post_40 rfl rfl ?_
    obtain ⟨o197, k⟩ := k
    refine aw_imul dX10_post_41 o197 ?_
    refine aw_iload 7 dX10_post_42 rfl ?_
    obtain ⟨o198, k⟩ := k
    refine aw_iadd dX10_post_44 o198 ?_
    obtain ⟨o199, k⟩ := k
    refine aw_imul dX10_post_45 o199 ?_
    refine aw_iconst dX10_post_46 ⟨by decide, by decide⟩ ?_
    obtain ⟨o200, k⟩ := k
    refine aw_iadd dX10_post_47 o200 ?_
    obtain ⟨o201, k⟩ := k
    obtain ⟨o202, k⟩ := k
    obtain ⟨o203, k⟩ := k
    refine aw_iald dX10_post_48 o201 o202 o203 (x := (h (h v0 7) ((7 * ((4 * v1) + v7)) + 1))) rfl ?_
    refine aw_iconst dX10_post_49 ⟨by decide, by decide⟩ ?_
    refine aw_icmp_le (tgt := 57) dX10_post_50 (by decide) (fun hc => ?_) (fun hc => ?_)
    · have k := k.1 hc
      refine aw_iconst dX10_post_57 ⟨by decide, by decide⟩ ?_
      obtain ⟨o204, k⟩ := k
      refine aw_iadd dX10_post_58 o204 ?_
      refine aw_istore dX10_post_59 (by decide) ?_
      obtain ⟨o205, k⟩ := k
      refine aw_iinc 7 dX10_post_61 rfl o205 (by decide) ?_
      refine aw_goto (tgt := 20) dX10_post_64 (by decide) ?_
      exact aw_sub [2, 3, 4, 5, 6, 7, 1, 0] rfl k
    · have k := k.2 hc
      refine aw_iconst dX10_post_53 ⟨by decide, by decide⟩ ?_
      refine aw_goto (tgt := 58) dX10_post_54 (by decide) ?_
      obtain ⟨o206, k⟩ := k
      refine aw_iadd dX10_post_58 o206 ?_
      refine aw_istore dX10_post_59 (by decide) ?_
      obtain ⟨o207, k⟩ := k
      refine aw_iinc 7 dX10_post_61 rfl o207 (by decide) ?_
      refine aw_goto (tgt := 20) dX10_post_64 (by decide) ?_
      exact aw_sub [2, 3, 4, 5, 6, 7, 1, 0] rfl k
set_option maxRecDepth 20000 in
theorem sg_X10_post_228 {G : GG} {b : Nat × Nat} {Q : Option VV → Hp → Prop} {v0 v1 : Int} {h : Hp} (k : (h v0 (-1) = 11) ∧ (h (h v0 5) (-1) = 20) ∧ (0 ≤ v1) ∧ (v1 < h (h v0 5) (-2)) ∧ (inI ((h (h v0 5) v1) - 1)) ∧ Q (some (vI ((h (h v0 5) v1) - 1))) h) : AW G mm_X10_post b 228 [(0, vR v0), (1, vI v1)] [] h Q := by
  refine aw_aload_n 0 dX10_post_228 rfl rfl ?_
  obtain ⟨o1, k⟩ := k
  refine aw_getR dX10_post_229 fl_X10_25 rfl o1 (x := (h v0 5)) rfl ?_
  refine aw_iload_n 1 dX10_post_232 rfl rfl ?_
  obtain ⟨o2, k⟩ := k
  obtain ⟨o3, k⟩ := k
  obtain ⟨o4, k⟩ := k
  refine aw_iald dX10_post_233 o2 o3 o4 (x := (h (h v0 5) v1)) rfl ?_
  refine aw_iconst dX10_post_234 ⟨by decide, by decide⟩ ?_
  obtain ⟨o5, k⟩ := k
  refine aw_isub dX10_post_235 o5 ?_
  exact aw_iret dX10_post_236 rfl k
set_option maxRecDepth 20000 in
theorem sg_X10_put_0 {G : GG} {b : Nat × Nat} {Q : Option VV → Hp → Prop} {v0 v1 v2 v3 : Int} {h : Hp} (k : ((¬ (0 ≤ v1 ∧ v1 ≤ 1)) → Q (some (vI (-1001))) h) ∧ ((0 ≤ v1 ∧ v1 ≤ 1) → ((0 ≤ v2 ∧ v2 ≤ 11) → ((0 ≤ v3 ∧ v3 ≤ 9999) → (h v0 (-1) = 11) ∧ (inI (12 * v1)) ∧ (inI ((12 * v1) + v2)) ∧ (h (h v0 0) (-1) = 20) ∧ (0 ≤ ((12 * v1) + v2)) ∧ (((12 * v1) + v2) < h (h v0 0) (-2)) ∧ (inI (12 * v1)) ∧ (inI ((12 * v1) + v2)) ∧ (0 ≤ ((12 * v1) + v2)) ∧ (((12 * v1) + v2) < h (h v0 0) (-2)) ∧ ∀ h1, h1 = wr h (h v0 0) ((12 * v1) + v2) v3 → Q (some (vI (h (h v0 0) ((12 * v1) + v2)))) h1) ∧ ((¬ (0 ≤ v3 ∧ v3 ≤ 9999)) → Q (some (vI (-1002))) h)) ∧ ((¬ (0 ≤ v2 ∧ v2 ≤ 11)) → Q (some (vI (-1001))) h))) : AW G mm_X10_put b 0 [(0, vR v0), (1, vI v1), (2, vI v2), (3, vI v3)] [] h Q := by
  refine aw_iload_n 1 dX10_put_0 rfl rfl ?_
  refine aw_callS (M' := mm_X10_isHost) [vI v1] [] lk_X10_194 dX10_put_1 rfl (Nat.le_of_ble_eq_true rfl) ⟨by decide, by decide, Nat.zero_le _, Nat.zero_le _⟩ ?_
  refine pu_X10_isHost ?_
  refine aw_if_eq (tgt := 14) dX10_put_4 (by decide) (fun hc => ?_) (fun hc => ?_)
  · have k := k.1 (b2i_0.mp hc)
    refine aw_sipush dX10_put_14 ⟨by decide, by decide⟩ (by decide) ?_
    exact aw_iret dX10_put_17 rfl k
  · have k := k.2 (b2i_n.mp hc)
    refine aw_iload_n 2 dX10_put_7 rfl rfl ?_
    refine aw_callS (M' := mm_X10_isCell) [vI v2] [] lk_X10_197 dX10_put_8 rfl (Nat.le_of_ble_eq_true rfl) ⟨by decide, by decide, Nat.zero_le _, Nat.zero_le _⟩ ?_
    refine pu_X10_isCell ?_
    refine aw_if_ne (tgt := 18) dX10_put_11 (by decide) (fun hc => ?_) (fun hc => ?_)
    · have k := k.1 (b2i_n.mp hc)
      refine aw_iload_n 3 dX10_put_18 rfl rfl ?_
      refine aw_callS (M' := mm_X10_isNumber) [vI v3] [] lk_X10_200 dX10_put_19 rfl (Nat.le_of_ble_eq_true rfl) ⟨by decide, by decide, Nat.zero_le _, Nat.zero_le _⟩ ?_
      refine pu_X10_isNumber ?_
      refine aw_if_ne (tgt := 29) dX10_put_22 (by decide) (fun hc => ?_) (fun hc => ?_)
      · have k := k.1 (b2i_n.mp hc)
        refine aw_aload_n 0 dX10_put_29 rfl rfl ?_
        obtain ⟨o1, k⟩ := k
        refine aw_getR dX10_put_30 fl_X10_7 rfl o1 (x := (h v0 0)) rfl ?_
        refine aw_bipush dX10_put_33 ⟨by decide, by decide⟩ (by decide) ?_
        refine aw_iload_n 1 dX10_put_35 rfl rfl ?_
        obtain ⟨o2, k⟩ := k
        refine aw_imul dX10_put_36 o2 ?_
        refine aw_iload_n 2 dX10_put_37 rfl rfl ?_
        obtain ⟨o3, k⟩ := k
        refine aw_iadd dX10_put_38 o3 ?_
        obtain ⟨o4, k⟩ := k
        obtain ⟨o5, k⟩ := k
        obtain ⟨o6, k⟩ := k
        refine aw_iald dX10_put_39 o4 o5 o6 (x := (h (h v0 0) ((12 * v1) + v2))) rfl ?_
        refine aw_istore dX10_put_40 (by decide) ?_
        refine aw_aload_n 1 dX10_put_42 rfl rfl ?_
        refine aw_getR dX10_put_43 fl_X10_7 rfl o1 (x := (h v0 0)) rfl ?_
        refine aw_bipush dX10_put_46 ⟨by decide, by decide⟩ (by decide) ?_
        refine aw_iload_n 2 dX10_put_48 rfl rfl ?_
        obtain ⟨o7, k⟩ := k
        refine aw_imul dX10_put_49 o7 ?_
        refine aw_iload_n 3 dX10_put_50 rfl rfl ?_
        obtain ⟨o8, k⟩ := k
        refine aw_iadd dX10_put_51 o8 ?_
        refine aw_iload_n 4 dX10_put_52 rfl rfl ?_
        obtain ⟨o9, k⟩ := k
        obtain ⟨o10, k⟩ := k
        refine aw_iast dX10_put_53 o4 o9 o10 ?_
        refine aw_hp (fun h1 e11 => ?_)
        have k := k h1 e11
        refine aw_iload 0 dX10_put_54 rfl ?_
        exact aw_iret dX10_put_56 rfl k
      · have k := k.2 (b2i_0.mp hc)
        refine aw_sipush dX10_put_25 ⟨by decide, by decide⟩ (by decide) ?_
        exact aw_iret dX10_put_28 rfl k
    · have k := k.2 (b2i_0.mp hc)
      refine aw_sipush dX10_put_14 ⟨by decide, by decide⟩ (by decide) ?_
      exact aw_iret dX10_put_17 rfl k
theorem rn_X10_put {G : GG} {Q : Option VV → Hp → Prop} {v0 v1 v2 v3 : Int} {h : Hp} (k : ((¬ (0 ≤ v1 ∧ v1 ≤ 1)) → Q (some (vI (-1001))) h) ∧ ((0 ≤ v1 ∧ v1 ≤ 1) → ((0 ≤ v2 ∧ v2 ≤ 11) → ((0 ≤ v3 ∧ v3 ≤ 9999) → (h v0 (-1) = 11) ∧ (inI (12 * v1)) ∧ (inI ((12 * v1) + v2)) ∧ (h (h v0 0) (-1) = 20) ∧ (0 ≤ ((12 * v1) + v2)) ∧ (((12 * v1) + v2) < h (h v0 0) (-2)) ∧ (inI (12 * v1)) ∧ (inI ((12 * v1) + v2)) ∧ (0 ≤ ((12 * v1) + v2)) ∧ (((12 * v1) + v2) < h (h v0 0) (-2)) ∧ ∀ h1, h1 = wr h (h v0 0) ((12 * v1) + v2) v3 → Q (some (vI (h (h v0 0) ((12 * v1) + v2)))) h1) ∧ ((¬ (0 ≤ v3 ∧ v3 ≤ 9999)) → Q (some (vI (-1002))) h)) ∧ ((¬ (0 ≤ v2 ∧ v2 ≤ 11)) → Q (some (vI (-1001))) h))) : Runs G mm_X10_put [vR v0, vI v1, vI v2, vI v3] h Q := Runs.of (by decide +kernel) (Nat.le_of_ble_eq_true rfl) (sg_X10_put_0 (b := (0, 0)) k)
set_option maxRecDepth 20000 in
theorem sg_X10_read_0 {G : GG} {b : Nat × Nat} {Q : Option VV → Hp → Prop} {v0 v1 v2 : Int} {h : Hp} (k : ((¬ (0 ≤ v1 ∧ v1 ≤ 3)) → Q (some (vI (-1001))) h) ∧ ((0 ≤ v1 ∧ v1 ≤ 3) → ((0 ≤ v2 ∧ v2 ≤ 11) → (h v0 (-1) = 11) ∧ Runs G mm_X10_post [vR v0, vI v1, vI 2, vI 0, vI 0, vI v2] h (fun r h' => AW G mm_X10_read b 29 [] (r.toList ++ []) h' Q)) ∧ ((¬ (0 ≤ v2 ∧ v2 ≤ 11)) → Q (some (vI (-1001))) h))) : AW G mm_X10_read b 0 [(0, vR v0), (1, vI v1), (2, vI v2)] [] h Q := by
  refine aw_iload_n 1 dX10_read_0 rfl rfl ?_
  refine aw_callS (M' := mm_X10_isEnd) [vI v1] [] lk_X10_220 dX10_read_1 rfl (Nat.le_of_ble_eq_true rfl) ⟨by decide, by decide, Nat.zero_le _, Nat.zero_le _⟩ ?_
  refine pu_X10_isEnd ?_
  refine aw_if_eq (tgt := 14) dX10_read_4 (by decide) (fun hc => ?_) (fun hc => ?_)
  · have k := k.1 (b2i_0.mp hc)
    refine aw_sipush dX10_read_14 ⟨by decide, by decide⟩ (by decide) ?_
    refine aw_goto (tgt := 29) dX10_read_17 (by decide) ?_
    exact aw_iret dX10_read_29 rfl k
  · have k := k.2 (b2i_n.mp hc)
    refine aw_iload_n 2 dX10_read_7 rfl rfl ?_
    refine aw_callS (M' := mm_X10_isCell) [vI v2] [] lk_X10_197 dX10_read_8 rfl (Nat.le_of_ble_eq_true rfl) ⟨by decide, by decide, Nat.zero_le _, Nat.zero_le _⟩ ?_
    refine pu_X10_isCell ?_
    refine aw_if_ne (tgt := 20) dX10_read_11 (by decide) (fun hc => ?_) (fun hc => ?_)
    · have k := k.1 (b2i_n.mp hc)
      refine aw_aload_n 0 dX10_read_20 rfl rfl ?_
      refine aw_iload_n 1 dX10_read_21 rfl rfl ?_
      refine aw_iconst dX10_read_22 ⟨by decide, by decide⟩ ?_
      refine aw_iconst dX10_read_23 ⟨by decide, by decide⟩ ?_
      refine aw_iconst dX10_read_24 ⟨by decide, by decide⟩ ?_
      refine aw_iload_n 2 dX10_read_25 rfl rfl ?_
      obtain ⟨o1, k⟩ := k
      refine aw_callV (M' := mm_X10_post) 10 [vI v1, vI 2, vI 0, vI 0, vI v2] [] lk_X10_282 ⟨_, rfl, rfl⟩ dX10_read_26 rfl (Nat.le_of_ble_eq_true rfl) ⟨by decide, by decide, Nat.zero_le _, Nat.zero_le _⟩ o1 ?_
      exact k.mono (fun _ _ z => aw_sub [] rfl z)
    · have k := k.2 (b2i_0.mp hc)
      refine aw_sipush dX10_read_14 ⟨by decide, by decide⟩ (by decide) ?_
      refine aw_goto (tgt := 29) dX10_read_17 (by decide) ?_
      exact aw_iret dX10_read_29 rfl k
theorem rn_X10_read {G : GG} {Q : Option VV → Hp → Prop} {v0 v1 v2 : Int} {h : Hp} (k : ((¬ (0 ≤ v1 ∧ v1 ≤ 3)) → Q (some (vI (-1001))) h) ∧ ((0 ≤ v1 ∧ v1 ≤ 3) → ((0 ≤ v2 ∧ v2 ≤ 11) → (h v0 (-1) = 11) ∧ Runs G mm_X10_post [vR v0, vI v1, vI 2, vI 0, vI 0, vI v2] h (fun r h' => AW G mm_X10_read (0, 0) 29 [] (r.toList ++ []) h' Q)) ∧ ((¬ (0 ≤ v2 ∧ v2 ≤ 11)) → Q (some (vI (-1001))) h))) : Runs G mm_X10_read [vR v0, vI v1, vI v2] h Q := Runs.of (by decide +kernel) (Nat.le_of_ble_eq_true rfl) (sg_X10_read_0 (b := (0, 0)) k)
set_option maxRecDepth 20000 in
theorem sg_X10_read_29 {G : GG} {b : Nat × Nat} {Q : Option VV → Hp → Prop} {s0 : Int} {h : Hp} (k : Q (some (vI s0)) h) : AW G mm_X10_read b 29 [] [vI s0] h Q := by
  exact aw_iret dX10_read_29 rfl k
set_option maxRecDepth 20000 in
theorem sg_X10_reads_0 {G : GG} {b : Nat × Nat} {Q : Option VV → Hp → Prop} {v0 v1 v2 v3 : Int} {h : Hp} (k : (h v0 (-1) = 11) ∧ (((h v0 32) = (h v0 31)) → Q (some (vI 0)) h) ∧ ((¬ ((h v0 32) = (h v0 31))) → (h (h v0 30) (-1) = 20) ∧ (0 ≤ (h v0 32)) ∧ ((h v0 32) < h (h v0 30) (-2)) ∧ ((¬ (48 ≤ (h (h v0 30) (h v0 32)) ∧ (h (h v0 30) (h v0 32)) ≤ 57)) → Q (some (vI 0)) h) ∧ ((48 ≤ (h (h v0 30) (h v0 32)) ∧ (h (h v0 30) (h v0 32)) ≤ 57) → (inI ((h v0 33) - (h v0 32))) ∧ ((((h v0 33) - (h v0 32)) ≤ 4) → AW G mm_X10_reads b 50 [(0, vR v0), (1, vI v1), (2, vI v2), (3, vI v3), (4, vI 0), (5, vI (h v0 32))] [] h Q) ∧ ((¬ (((h v0 33) - (h v0 32)) ≤ 4)) → Q (some (vI 0)) h)))) : AW G mm_X10_reads b 0 [(0, vR v0), (1, vI v1), (2, vI v2), (3, vI v3)] [] h Q := by
  refine aw_aload_n 0 dX10_reads_0 rfl rfl ?_
  obtain ⟨o1, k⟩ := k
  refine aw_getI dX10_reads_1 fl_X10_142 rfl o1 (x := (h v0 32)) rfl ?_
  refine aw_aload_n 0 dX10_reads_4 rfl rfl ?_
  refine aw_getI dX10_reads_5 fl_X10_128 rfl o1 (x := (h v0 31)) rfl ?_
  refine aw_icmp_eq (tgt := 39) dX10_reads_8 (by decide) (fun hc => ?_) (fun hc => ?_)
  · have k := k.1 hc
    refine aw_iconst dX10_reads_39 ⟨by decide, by decide⟩ ?_
    exact aw_zret dX10_reads_40 rfl (by decide) k
  · have k := k.2 hc
    refine aw_aload_n 0 dX10_reads_11 rfl rfl ?_
    refine aw_getR dX10_reads_12 fl_X10_83 rfl o1 (x := (h v0 30)) rfl ?_
    refine aw_aload_n 0 dX10_reads_15 rfl rfl ?_
    refine aw_getI dX10_reads_16 fl_X10_142 rfl o1 (x := (h v0 32)) rfl ?_
    obtain ⟨o2, k⟩ := k
    obtain ⟨o3, k⟩ := k
    obtain ⟨o4, k⟩ := k
    refine aw_iald dX10_reads_19 o2 o3 o4 (x := (h (h v0 30) (h v0 32))) rfl ?_
    refine aw_callS (M' := mm_X10_isDigit) [vI (h (h v0 30) (h v0 32))] [] lk_X10_149 dX10_reads_20 rfl (Nat.le_of_ble_eq_true rfl) ⟨by decide, by decide, Nat.zero_le _, Nat.zero_le _⟩ ?_
    refine pu_X10_isDigit ?_
    refine aw_if_eq (tgt := 39) dX10_reads_23 (by decide) (fun hc => ?_) (fun hc => ?_)
    · have k := k.1 (b2i_0.mp hc)
      refine aw_iconst dX10_reads_39 ⟨by decide, by decide⟩ ?_
      exact aw_zret dX10_reads_40 rfl (by decide) k
    · have k := k.2 (b2i_n.mp hc)
      refine aw_aload_n 0 dX10_reads_26 rfl rfl ?_
      refine aw_getI dX10_reads_27 fl_X10_139 rfl o1 (x := (h v0 33)) rfl ?_
      refine aw_aload_n 0 dX10_reads_30 rfl rfl ?_
      refine aw_getI dX10_reads_31 fl_X10_142 rfl o1 (x := (h v0 32)) rfl ?_
      obtain ⟨o5, k⟩ := k
      refine aw_isub dX10_reads_34 o5 ?_
      refine aw_iconst dX10_reads_35 ⟨by decide, by decide⟩ ?_
      refine aw_icmp_le (tgt := 41) dX10_reads_36 (by decide) (fun hc => ?_) (fun hc => ?_)
      · have k := k.1 hc
        refine aw_iconst dX10_reads_41 ⟨by decide, by decide⟩ ?_
        refine aw_istore dX10_reads_42 (by decide) ?_
        refine aw_aload_n 1 dX10_reads_44 rfl rfl ?_
        refine aw_getI dX10_reads_45 fl_X10_142 rfl o1 (x := (h v0 32)) rfl ?_
        refine aw_istore dX10_reads_48 (by decide) ?_
        exact aw_sub [2, 3, 4, 5, 1, 0] rfl k
      · have k := k.2 hc
        refine aw_iconst dX10_reads_39 ⟨by decide, by decide⟩ ?_
        exact aw_zret dX10_reads_40 rfl (by decide) k
theorem rn_X10_reads {G : GG} {Q : Option VV → Hp → Prop} {v0 v1 v2 v3 : Int} {h : Hp} (k : (h v0 (-1) = 11) ∧ (((h v0 32) = (h v0 31)) → Q (some (vI 0)) h) ∧ ((¬ ((h v0 32) = (h v0 31))) → (h (h v0 30) (-1) = 20) ∧ (0 ≤ (h v0 32)) ∧ ((h v0 32) < h (h v0 30) (-2)) ∧ ((¬ (48 ≤ (h (h v0 30) (h v0 32)) ∧ (h (h v0 30) (h v0 32)) ≤ 57)) → Q (some (vI 0)) h) ∧ ((48 ≤ (h (h v0 30) (h v0 32)) ∧ (h (h v0 30) (h v0 32)) ≤ 57) → (inI ((h v0 33) - (h v0 32))) ∧ ((((h v0 33) - (h v0 32)) ≤ 4) → AW G mm_X10_reads (0, 0) 50 [(0, vR v0), (1, vI v1), (2, vI v2), (3, vI v3), (4, vI 0), (5, vI (h v0 32))] [] h Q) ∧ ((¬ (((h v0 33) - (h v0 32)) ≤ 4)) → Q (some (vI 0)) h)))) : Runs G mm_X10_reads [vR v0, vI v1, vI v2, vI v3] h Q := Runs.of (by decide +kernel) (Nat.le_of_ble_eq_true rfl) (sg_X10_reads_0 (b := (0, 0)) k)
set_option maxRecDepth 20000 in
theorem sg_X10_reads_50 {G : GG} {b : Nat × Nat} {Q : Option VV → Hp → Prop} {v0 v1 v2 v3 v4 v5 : Int} {h : Hp} (k : (h v0 (-1) = 11) ∧ (((h v0 33) ≤ v5) → ((v2 ≤ v4 ∧ v4 ≤ v3) → (h (h v0 36) (-1) = 20) ∧ (0 ≤ v1) ∧ (v1 < h (h v0 36) (-2)) ∧ ∀ h1, h1 = wr h (h v0 36) v1 v4 → Runs G mm_X10_next [vR v0] h1 (fun r h' => AW G mm_X10_reads b 110 [] (r.toList ++ []) h' Q)) ∧ ((¬ (v2 ≤ v4 ∧ v4 ≤ v3)) → Q (some (vI 0)) h)) ∧ ((¬ ((h v0 33) ≤ v5)) → (inI (10 * v4)) ∧ (h (h v0 30) (-1) = 20) ∧ (0 ≤ v5) ∧ (v5 < h (h v0 30) (-2)) ∧ (inI ((10 * v4) + (h (h v0 30) v5))) ∧ (inI (((10 * v4) + (h (h v0 30) v5)) - 48)) ∧ (inI (v5 + 1)) ∧ AW G mm_X10_reads b 50 [(0, vR v0), (1, vI v1), (2, vI v2), (3, vI v3), (4, vI (((10 * v4) + (h (h v0 30) v5)) - 48)), (5, vI (v5 + 1))] [] h Q)) : AW G mm_X10_reads b 50 [(0, vR v0), (1, vI v1), (2, vI v2), (3, vI v3), (4, vI v4), (5, vI v5)] [] h Q := by
  refine aw_iload 5 dX10_reads_50 rfl ?_
  refine aw_aload_n 0 dX10_reads_52 rfl rfl ?_
  obtain ⟨o1, k⟩ := k
  refine aw_getI dX10_reads_53 fl_X10_139 rfl o1 (x := (h v0 33)) rfl ?_
  refine aw_icmp_ge (tgt := 83) dX10_reads_56 (by decide) (fun hc => ?_) (fun hc => ?_)
  · have k := k.1 hc
    refine aw_iload 4 dX10_reads_83 rfl ?_
    refine aw_i2l dX10_reads_85 ?_
    refine aw_iload_n 2 dX10_reads_86 rfl rfl ?_
    refine aw_i2l dX10_reads_87 ?_
    refine aw_iload_n 3 dX10_reads_88 rfl rfl ?_
    refine aw_i2l dX10_reads_89 ?_
    refine aw_callS (M' := mm_X10_in) [vL v4, vL v2, vL v3] [] lk_X10_95 dX10_reads_90 rfl (Nat.le_of_ble_eq_true rfl) ⟨by decide, by decide, Nat.zero_le _, Nat.zero_le _⟩ ?_
    refine pu_X10_in ?_
    refine aw_if_ne (tgt := 98) dX10_reads_93 (by decide) (fun hc => ?_) (fun hc => ?_)
    · have k := k.1 (b2i_n.mp hc)
      refine aw_aload_n 0 dX10_reads_98 rfl rfl ?_
      refine aw_getR dX10_reads_99 fl_X10_86 rfl o1 (x := (h v0 36)) rfl ?_
      refine aw_iload_n 1 dX10_reads_102 rfl rfl ?_
      refine aw_iload 4 dX10_reads_103 rfl ?_
      obtain ⟨o2, k⟩ := k
      obtain ⟨o3, k⟩ := k
      obtain ⟨o4, k⟩ := k
      refine aw_iast dX10_reads_105 o2 o3 o4 ?_
      refine aw_hp (fun h1 e5 => ?_)
      have k := k h1 e5
      refine aw_aload_n 0 dX10_reads_106 rfl rfl ?_
      have q6 := sh_w e5 o3 o1
      refine aw_callV (M' := mm_X10_next) 10 [] [] lk_X10_152 ⟨_, rfl, rfl⟩ dX10_reads_107 rfl (Nat.le_of_ble_eq_true rfl) ⟨by decide, by decide, Nat.zero_le _, Nat.zero_le _⟩ q6 ?_
      exact k.mono (fun _ _ z => aw_sub [] rfl z)
    · have k := k.2 (b2i_0.mp hc)
      refine aw_iconst dX10_reads_96 ⟨by decide, by decide⟩ ?_
      exact aw_zret dX10_reads_97 rfl (by decide) k
  · have k := k.2 hc
    refine aw_bipush dX10_reads_59 ⟨by decide, by decide⟩ (by decide) ?_
    refine aw_iload 4 dX10_reads_61 rfl ?_
    obtain ⟨o7, k⟩ := k
    refine aw_imul dX10_reads_63 o7 ?_
    refine aw_aload_n 0 dX10_reads_64 rfl rfl ?_
    refine aw_getR dX10_reads_65 fl_X10_83 rfl o1 (x := (h v0 30)) rfl ?_
    refine aw_iload 5 dX10_reads_68 rfl ?_
    obtain ⟨o8, k⟩ := k
    obtain ⟨o9, k⟩ := k
    obtain ⟨o10, k⟩ := k
    refine aw_iald dX10_reads_70 o8 o9 o10 (x := (h (h v0 30) v5)) rfl ?_
    obtain ⟨o11, k⟩ := k
    refine aw_iadd dX10_reads_71 o11 ?_
    refine aw_bipush dX10_reads_72 ⟨by decide, by decide⟩ (by decide) ?_
    obtain ⟨o12, k⟩ := k
    refine aw_isub dX10_reads_74 o12 ?_
    refine aw_istore dX10_reads_75 (by decide) ?_
    obtain ⟨o13, k⟩ := k
    refine aw_iinc 5 dX10_reads_77 rfl o13 (by decide) ?_
    refine aw_goto (tgt := 50) dX10_reads_80 (by decide) ?_
    exact aw_sub [2, 3, 4, 5, 1, 0] rfl k
set_option maxRecDepth 20000 in
theorem sg_X10_reads_110 {G : GG} {b : Nat × Nat} {Q : Option VV → Hp → Prop} {h : Hp} (k : Q (some (vI 1)) h) : AW G mm_X10_reads b 110 [] [] h Q := by
  refine aw_iconst dX10_reads_110 ⟨by decide, by decide⟩ ?_
  exact aw_zret dX10_reads_111 rfl (by decide) k
set_option maxRecDepth 20000 in
theorem sg_X10_readsAll_0 {G : GG} {b : Nat × Nat} {Q : Option VV → Hp → Prop} {v0 v1 : Int} {h : Hp} (k : (h v0 (-1) = 11) ∧ (v1 = 0 ∨ v1 = 1) ∧ ∀ h1, h1 = wr h v0 35 v1 → ∀ h2, h2 = wr h1 v0 33 0 → ∀ h3, h3 = wr h2 v0 34 1 → Runs G mm_X10_next [vR v0] h3 (fun r h' => AW G mm_X10_readsAll b 19 [(0, vR v0)] (r.toList ++ []) h' Q)) : AW G mm_X10_readsAll b 0 [(0, vR v0), (1, vI v1)] [] h Q := by
  refine aw_aload_n 0 dX10_readsAll_0 rfl rfl ?_
  refine aw_iload_n 1 dX10_readsAll_1 rfl rfl ?_
  obtain ⟨o1, k⟩ := k
  obtain ⟨o2, k⟩ := k
  refine aw_putZ dX10_readsAll_2 fl_X10_177 (fun q hq hf => by cases hq; cases hf) rfl rfl o2 o1 ?_
  refine aw_hp (fun h1 e3 => ?_)
  have k := k h1 e3
  refine aw_aload_n 0 dX10_readsAll_5 rfl rfl ?_
  refine aw_iconst dX10_readsAll_6 ⟨by decide, by decide⟩ ?_
  have q4 := sh_w e3 (by decide) o1
  refine aw_putI dX10_readsAll_7 fl_X10_139 (fun q hq hf => by cases hq; cases hf) rfl rfl q4 ?_
  refine aw_hp (fun h2 e5 => ?_)
  have k := k h2 e5
  refine aw_aload_n 0 dX10_readsAll_10 rfl rfl ?_
  refine aw_iconst dX10_readsAll_11 ⟨by decide, by decide⟩ ?_
  have q6 := sh_w e5 (by decide) q4
  refine aw_putI dX10_readsAll_12 fl_X10_183 (fun q hq hf => by cases hq; cases hf) rfl rfl q6 ?_
  refine aw_hp (fun h3 e7 => ?_)
  have k := k h3 e7
  refine aw_aload_n 0 dX10_readsAll_15 rfl rfl ?_
  have q8 := sh_w e7 (by decide) q6
  refine aw_callV (M' := mm_X10_next) 10 [] [] lk_X10_152 ⟨_, rfl, rfl⟩ dX10_readsAll_16 rfl (Nat.le_of_ble_eq_true rfl) ⟨by decide, by decide, Nat.zero_le _, Nat.zero_le _⟩ q8 ?_
  exact k.mono (fun _ _ z => aw_sub [0] rfl z)
theorem rn_X10_readsAll {G : GG} {Q : Option VV → Hp → Prop} {v0 v1 : Int} {h : Hp} (k : (h v0 (-1) = 11) ∧ (v1 = 0 ∨ v1 = 1) ∧ ∀ h1, h1 = wr h v0 35 v1 → ∀ h2, h2 = wr h1 v0 33 0 → ∀ h3, h3 = wr h2 v0 34 1 → Runs G mm_X10_next [vR v0] h3 (fun r h' => AW G mm_X10_readsAll (0, 0) 19 [(0, vR v0)] (r.toList ++ []) h' Q)) : Runs G mm_X10_readsAll [vR v0, vI v1] h Q := Runs.of (by decide +kernel) (Nat.le_of_ble_eq_true rfl) (sg_X10_readsAll_0 (b := (0, 0)) k)
set_option maxRecDepth 20000 in
theorem sg_X10_readsAll_19 {G : GG} {b : Nat × Nat} {Q : Option VV → Hp → Prop} {v0 : Int} {h : Hp} (k : (h v0 (-1) = 11) ∧ Runs G mm_X10_readsClause [vR v0] h (fun r h' => AW G mm_X10_readsAll b 23 [(0, vR v0)] (r.toList ++ []) h' Q)) : AW G mm_X10_readsAll b 19 [(0, vR v0)] [] h Q := by
  refine aw_aload_n 0 dX10_readsAll_19 rfl rfl ?_
  obtain ⟨o1, k⟩ := k
  refine aw_callV (M' := mm_X10_readsClause) 10 [] [] lk_X10_186 ⟨_, rfl, rfl⟩ dX10_readsAll_20 rfl (Nat.le_of_ble_eq_true rfl) ⟨by decide, by decide, Nat.zero_le _, Nat.zero_le _⟩ o1 ?_
  exact k
set_option maxRecDepth 20000 in
theorem sg_X10_readsAll_23 {G : GG} {b : Nat × Nat} {Q : Option VV → Hp → Prop} {v0 s0 : Int} {h : Hp} (k : AW G mm_X10_readsAll b 24 [(0, vR v0), (2, vI s0)] [] h Q) : AW G mm_X10_readsAll b 23 [(0, vR v0)] [vI s0] h Q := by
  refine aw_istore_n dX10_readsAll_23 rfl (by decide) ?_
  exact aw_sub [1, 0] rfl k
set_option maxRecDepth 20000 in
theorem sg_X10_readsAll_24 {G : GG} {b : Nat × Nat} {Q : Option VV → Hp → Prop} {v0 v2 : Int} {h : Hp} (k : ((v2 = 0) → (v2 = 0 ∨ v2 = 1) ∧ Q (some (vI v2)) h) ∧ ((¬ (v2 = 0)) → (h v0 (-1) = 11) ∧ (((h v0 31) ≤ (h v0 32)) → (v2 = 0 ∨ v2 = 1) ∧ Q (some (vI v2)) h) ∧ ((¬ ((h v0 31) ≤ (h v0 32))) → ((24 ≤ (h v0 34)) → AW G mm_X10_readsAll b 24 [(0, vR v0), (2, vI 0)] [] h Q) ∧ ((¬ (24 ≤ (h v0 34))) → (h (h v0 30) (-1) = 20) ∧ (0 ≤ (h v0 32)) ∧ ((h v0 32) < h (h v0 30) (-2)) ∧ ((¬ (h (h v0 30) (h v0 32)) = 59) → AW G mm_X10_readsAll b 24 [(0, vR v0), (2, vI 0)] [] h Q) ∧ (((h (h v0 30) (h v0 32)) = 59) → Runs G mm_X10_next [vR v0] h (fun r h' => AW G mm_X10_readsAll b 76 [(0, vR v0)] (r.toList ++ []) h' Q)))))) : AW G mm_X10_readsAll b 24 [(0, vR v0), (2, vI v2)] [] h Q := by
  refine aw_iload_n 1 dX10_readsAll_24 rfl rfl ?_
  refine aw_if_eq (tgt := 94) dX10_readsAll_25 (by decide) (fun hc => ?_) (fun hc => ?_)
  · have k := k.1 hc
    refine aw_iload_n 1 dX10_readsAll_94 rfl rfl ?_
    obtain ⟨o1, k⟩ := k
    exact aw_zret dX10_readsAll_95 rfl o1 k
  · have k := k.2 hc
    refine aw_aload_n 0 dX10_readsAll_28 rfl rfl ?_
    obtain ⟨o2, k⟩ := k
    refine aw_getI dX10_readsAll_29 fl_X10_142 rfl o2 (x := (h v0 32)) rfl ?_
    refine aw_aload_n 0 dX10_readsAll_32 rfl rfl ?_
    refine aw_getI dX10_readsAll_33 fl_X10_128 rfl o2 (x := (h v0 31)) rfl ?_
    refine aw_icmp_ge (tgt := 94) dX10_readsAll_36 (by decide) (fun hc => ?_) (fun hc => ?_)
    · have k := k.1 hc
      refine aw_iload_n 1 dX10_readsAll_94 rfl rfl ?_
      obtain ⟨o3, k⟩ := k
      exact aw_zret dX10_readsAll_95 rfl o3 k
    · have k := k.2 hc
      refine aw_aload_n 0 dX10_readsAll_39 rfl rfl ?_
      refine aw_getI dX10_readsAll_40 fl_X10_183 rfl o2 (x := (h v0 34)) rfl ?_
      refine aw_bipush dX10_readsAll_43 ⟨by decide, by decide⟩ (by decide) ?_
      refine aw_icmp_ge (tgt := 66) dX10_readsAll_45 (by decide) (fun hc => ?_) (fun hc => ?_)
      · have k := k.1 hc
        refine aw_iconst dX10_readsAll_66 ⟨by decide, by decide⟩ ?_
        refine aw_istore_n dX10_readsAll_67 rfl (by decide) ?_
        refine aw_iload_n 0 dX10_readsAll_68 rfl rfl ?_
        refine aw_if_eq (tgt := 24) dX10_readsAll_69 (by decide) (fun _ => ?_) (fun hc => absurd hc (by decide))
        exact aw_sub [1, 0] rfl k
      · have k := k.2 hc
        refine aw_aload_n 0 dX10_readsAll_48 rfl rfl ?_
        refine aw_getR dX10_readsAll_49 fl_X10_83 rfl o2 (x := (h v0 30)) rfl ?_
        refine aw_aload_n 0 dX10_readsAll_52 rfl rfl ?_
        refine aw_getI dX10_readsAll_53 fl_X10_142 rfl o2 (x := (h v0 32)) rfl ?_
        obtain ⟨o4, k⟩ := k
        obtain ⟨o5, k⟩ := k
        obtain ⟨o6, k⟩ := k
        refine aw_iald dX10_readsAll_56 o4 o5 o6 (x := (h (h v0 30) (h v0 32))) rfl ?_
        refine aw_bipush dX10_readsAll_57 ⟨by decide, by decide⟩ (by decide) ?_
        refine aw_icmp_ne (tgt := 66) dX10_readsAll_59 (by decide) (fun hc => ?_) (fun hc => ?_)
        · have k := k.1 hc
          refine aw_iconst dX10_readsAll_66 ⟨by decide, by decide⟩ ?_
          refine aw_istore_n dX10_readsAll_67 rfl (by decide) ?_
          refine aw_iload_n 0 dX10_readsAll_68 rfl rfl ?_
          refine aw_if_eq (tgt := 24) dX10_readsAll_69 (by decide) (fun _ => ?_) (fun hc => absurd hc (by decide))
          exact aw_sub [1, 0] rfl k
        · have k := k.2 hc
          refine aw_iconst dX10_readsAll_62 ⟨by decide, by decide⟩ ?_
          refine aw_goto (tgt := 67) dX10_readsAll_63 (by decide) ?_
          refine aw_istore_n dX10_readsAll_67 rfl (by decide) ?_
          refine aw_iload_n 0 dX10_readsAll_68 rfl rfl ?_
          refine aw_if_eq (tgt := 24) dX10_readsAll_69 (by decide) (fun hc => absurd hc (by decide)) (fun _ => ?_)
          refine aw_aload_n 1 dX10_readsAll_72 rfl rfl ?_
          refine aw_callV (M' := mm_X10_next) 10 [] [] lk_X10_152 ⟨_, rfl, rfl⟩ dX10_readsAll_73 rfl (Nat.le_of_ble_eq_true rfl) ⟨by decide, by decide, Nat.zero_le _, Nat.zero_le _⟩ o2 ?_
          exact k.mono (fun _ _ z => aw_sub [1] rfl z)
set_option maxRecDepth 20000 in
theorem sg_X10_readsAll_76 {G : GG} {b : Nat × Nat} {Q : Option VV → Hp → Prop} {v0 : Int} {h : Hp} (k : (h v0 (-1) = 11) ∧ Runs G mm_X10_readsClause [vR v0] h (fun r h' => AW G mm_X10_readsAll b 80 [(0, vR v0)] (r.toList ++ []) h' Q)) : AW G mm_X10_readsAll b 76 [(0, vR v0)] [] h Q := by
  refine aw_aload_n 0 dX10_readsAll_76 rfl rfl ?_
  obtain ⟨o1, k⟩ := k
  refine aw_callV (M' := mm_X10_readsClause) 10 [] [] lk_X10_186 ⟨_, rfl, rfl⟩ dX10_readsAll_77 rfl (Nat.le_of_ble_eq_true rfl) ⟨by decide, by decide, Nat.zero_le _, Nat.zero_le _⟩ o1 ?_
  exact k
set_option maxRecDepth 20000 in
theorem sg_X10_readsAll_80 {G : GG} {b : Nat × Nat} {Q : Option VV → Hp → Prop} {v0 s0 : Int} {h : Hp} (k : (h v0 (-1) = 11) ∧ (inI ((h v0 34) + 1)) ∧ ∀ h1, h1 = wr h v0 34 ((h v0 34) + 1) → AW G mm_X10_readsAll b 24 [(0, vR v0), (2, vI s0)] [] h1 Q) : AW G mm_X10_readsAll b 80 [(0, vR v0)] [vI s0] h Q := by
  refine aw_istore_n dX10_readsAll_80 rfl (by decide) ?_
  refine aw_aload_n 1 dX10_readsAll_81 rfl rfl ?_
  refine aw_dup dX10_readsAll_82 rfl ?_
  obtain ⟨o1, k⟩ := k
  refine aw_getI dX10_readsAll_83 fl_X10_183 rfl o1 (x := (h v0 34)) rfl ?_
  refine aw_iconst dX10_readsAll_86 ⟨by decide, by decide⟩ ?_
  obtain ⟨o2, k⟩ := k
  refine aw_iadd dX10_readsAll_87 o2 ?_
  refine aw_putI dX10_readsAll_88 fl_X10_183 (fun q hq hf => by cases hq; cases hf) rfl rfl o1 ?_
  refine aw_hp (fun h1 e3 => ?_)
  have k := k h1 e3
  refine aw_goto (tgt := 24) dX10_readsAll_91 (by decide) ?_
  exact aw_sub [1, 0] rfl k
set_option maxRecDepth 20000 in
theorem sg_X10_readsClause_0 {G : GG} {b : Nat × Nat} {Q : Option VV → Hp → Prop} {v0 : Int} {h : Hp} (k : (h v0 (-1) = 11) ∧ Runs G mm_X10_wordHere [vR v0] h (fun r h' => AW G mm_X10_readsClause b 4 [(0, vR v0)] (r.toList ++ []) h' Q)) : AW G mm_X10_readsClause b 0 [(0, vR v0)] [] h Q := by
  refine aw_aload_n 0 dX10_readsClause_0 rfl rfl ?_
  obtain ⟨o1, k⟩ := k
  refine aw_callV (M' := mm_X10_wordHere) 10 [] [] lk_X10_170 ⟨_, rfl, rfl⟩ dX10_readsClause_1 rfl (Nat.le_of_ble_eq_true rfl) ⟨by decide, by decide, Nat.zero_le _, Nat.zero_le _⟩ o1 ?_
  exact k
theorem rn_X10_readsClause {G : GG} {Q : Option VV → Hp → Prop} {v0 : Int} {h : Hp} (k : (h v0 (-1) = 11) ∧ Runs G mm_X10_wordHere [vR v0] h (fun r h' => AW G mm_X10_readsClause (0, 0) 4 [(0, vR v0)] (r.toList ++ []) h' Q)) : Runs G mm_X10_readsClause [vR v0] h Q := Runs.of (by decide +kernel) (Nat.le_of_ble_eq_true rfl) (sg_X10_readsClause_0 (b := (0, 0)) k)
set_option maxRecDepth 20000 in
theorem sg_X10_readsClause_4 {G : GG} {b : Nat × Nat} {Q : Option VV → Hp → Prop} {v0 s0 : Int} {h : Hp} (k : ((¬ s0 = (-1)) → (h v0 (-1) = 11) ∧ Runs G mm_X10_next [vR v0] h (fun r h' => AW G mm_X10_readsClause b 16 [(0, vR v0), (1, vI s0)] (r.toList ++ []) h' Q)) ∧ ((s0 = (-1)) → Q (some (vI 0)) h)) : AW G mm_X10_readsClause b 4 [(0, vR v0)] [vI s0] h Q := by
  refine aw_istore_n dX10_readsClause_4 rfl (by decide) ?_
  refine aw_iload_n 0 dX10_readsClause_5 rfl rfl ?_
  refine aw_iconst dX10_readsClause_6 ⟨by decide, by decide⟩ ?_
  refine aw_icmp_ne (tgt := 12) dX10_readsClause_7 (by decide) (fun hc => ?_) (fun hc => ?_)
  · have k := k.1 hc
    refine aw_aload_n 1 dX10_readsClause_12 rfl rfl ?_
    obtain ⟨o1, k⟩ := k
    refine aw_callV (M' := mm_X10_next) 10 [] [] lk_X10_152 ⟨_, rfl, rfl⟩ dX10_readsClause_13 rfl (Nat.le_of_ble_eq_true rfl) ⟨by decide, by decide, Nat.zero_le _, Nat.zero_le _⟩ o1 ?_
    exact k.mono (fun _ _ z => aw_sub [1, 0] rfl z)
  · have k := k.2 hc
    refine aw_iconst dX10_readsClause_10 ⟨by decide, by decide⟩ ?_
    exact aw_zret dX10_readsClause_11 rfl (by decide) k
set_option maxRecDepth 20000 in
theorem sg_X10_readsClause_16 {G : GG} {b : Nat × Nat} {Q : Option VV → Hp → Prop} {v0 v1 : Int} {h : Hp} (k : (h v0 (-1) = 11) ∧ Runs G mm_X10_readsRest [vR v0, vI v1] h (fun r h' => AW G mm_X10_readsClause b 21 [(0, vR v0), (1, vI v1)] (r.toList ++ []) h' Q)) : AW G mm_X10_readsClause b 16 [(0, vR v0), (1, vI v1)] [] h Q := by
  refine aw_aload_n 0 dX10_readsClause_16 rfl rfl ?_
  refine aw_iload_n 1 dX10_readsClause_17 rfl rfl ?_
  obtain ⟨o1, k⟩ := k
  refine aw_callV (M' := mm_X10_readsRest) 10 [vI v1] [] lk_X10_174 ⟨_, rfl, rfl⟩ dX10_readsClause_18 rfl (Nat.le_of_ble_eq_true rfl) ⟨by decide, by decide, Nat.zero_le _, Nat.zero_le _⟩ o1 ?_
  exact k
set_option maxRecDepth 20000 in
theorem sg_X10_readsClause_21 {G : GG} {b : Nat × Nat} {Q : Option VV → Hp → Prop} {v0 v1 s0 : Int} {h : Hp} (k : ((¬ s0 = 0) → (h v0 (-1) = 11) ∧ (((h v0 35) = 0) → Q (some (vI 1)) h) ∧ ((¬ ((h v0 35) = 0)) → Runs G mm_X10_does [vR v0, vI v1] h (fun r h' => AW G mm_X10_readsClause b 38 [] (r.toList ++ []) h' Q))) ∧ ((s0 = 0) → Q (some (vI 0)) h)) : AW G mm_X10_readsClause b 21 [(0, vR v0), (1, vI v1)] [vI s0] h Q := by
  refine aw_if_ne (tgt := 26) dX10_readsClause_21 (by decide) (fun hc => ?_) (fun hc => ?_)
  · have k := k.1 hc
    refine aw_aload_n 0 dX10_readsClause_26 rfl rfl ?_
    obtain ⟨o1, k⟩ := k
    refine aw_getI dX10_readsClause_27 fl_X10_177 rfl o1 (x := (h v0 35)) rfl ?_
    refine aw_if_eq (tgt := 38) dX10_readsClause_30 (by decide) (fun hc => ?_) (fun hc => ?_)
    · have k := k.1 hc
      refine aw_iconst dX10_readsClause_38 ⟨by decide, by decide⟩ ?_
      exact aw_zret dX10_readsClause_39 rfl (by decide) k
    · have k := k.2 hc
      refine aw_aload_n 0 dX10_readsClause_33 rfl rfl ?_
      refine aw_iload_n 1 dX10_readsClause_34 rfl rfl ?_
      refine aw_callV (M' := mm_X10_does) 10 [vI v1] [] lk_X10_180 ⟨_, rfl, rfl⟩ dX10_readsClause_35 rfl (Nat.le_of_ble_eq_true rfl) ⟨by decide, by decide, Nat.zero_le _, Nat.zero_le _⟩ o1 ?_
      exact k.mono (fun _ _ z => aw_sub [] rfl z)
  · have k := k.2 hc
    refine aw_iconst dX10_readsClause_24 ⟨by decide, by decide⟩ ?_
    exact aw_zret dX10_readsClause_25 rfl (by decide) k
set_option maxRecDepth 20000 in
theorem sg_X10_readsClause_38 {G : GG} {b : Nat × Nat} {Q : Option VV → Hp → Prop} {h : Hp} (k : Q (some (vI 1)) h) : AW G mm_X10_readsClause b 38 [] [] h Q := by
  refine aw_iconst dX10_readsClause_38 ⟨by decide, by decide⟩ ?_
  exact aw_zret dX10_readsClause_39 rfl (by decide) k
set_option maxRecDepth 20000 in
theorem sg_X10_readsRest_0 {G : GG} {b : Nat × Nat} {Q : Option VV → Hp → Prop} {v0 v1 : Int} {h : Hp} (k : ((v1 = 0) → Q (some (vI 1)) h) ∧ ((v1 = 1) → (h v0 (-1) = 11) ∧ Runs G mm_X10_reads [vR v0, vI 0, vI 0, vI 1] h (fun r h' => AW G mm_X10_readsRest b 45 [(0, vR v0)] (r.toList ++ []) h' Q)) ∧ ((v1 = 2) → (h v0 (-1) = 11) ∧ Runs G mm_X10_reads [vR v0, vI 0, vI 0, vI 1] h (fun r h' => AW G mm_X10_readsRest b 111 [(0, vR v0)] (r.toList ++ []) h' Q)) ∧ ((v1 = 3) → (h v0 (-1) = 11) ∧ Runs G mm_X10_reads [vR v0, vI 0, vI 0, vI 1] h (fun r h' => AW G mm_X10_readsRest b 150 [(0, vR v0)] (r.toList ++ []) h' Q)) ∧ ((v1 = 4) → (h v0 (-1) = 11) ∧ Runs G mm_X10_reads [vR v0, vI 0, vI 0, vI 3] h (fun r h' => AW G mm_X10_readsRest b 177 [(0, vR v0)] (r.toList ++ []) h' Q)) ∧ ((v1 < 0 ∨ 4 < v1) → (h v0 (-1) = 11) ∧ Runs G mm_X10_reads [vR v0, vI 0, vI 0, vI 1] h (fun r h' => AW G mm_X10_readsRest b 214 [] (r.toList ++ []) h' Q))) : AW G mm_X10_readsRest b 0 [(0, vR v0), (1, vI v1)] [] h Q := by
  refine aw_iload_n 1 dX10_readsRest_0 rfl rfl ?_
  rcases (show v1 = 0 ∨ v1 = 1 ∨ v1 = 2 ∨ v1 = 3 ∨ v1 = 4 ∨ (v1 < 0 ∨ 4 < v1) by omega) with hc | hc | hc | hc | hc | hc
  · have k := k.1 hc
    refine aw_tableIn (tgt := 36) dX10_readsRest_1 (by omega) (by omega) (by rw [hc]; rfl) (by decide) ?_
    refine aw_iconst dX10_readsRest_36 ⟨by decide, by decide⟩ ?_
    exact aw_zret dX10_readsRest_37 rfl (by decide) k
  · have k := k.2.1 hc
    refine aw_tableIn (tgt := 38) dX10_readsRest_1 (by omega) (by omega) (by rw [hc]; rfl) (by decide) ?_
    refine aw_aload_n 0 dX10_readsRest_38 rfl rfl ?_
    refine aw_iconst dX10_readsRest_39 ⟨by decide, by decide⟩ ?_
    refine aw_iconst dX10_readsRest_40 ⟨by decide, by decide⟩ ?_
    refine aw_iconst dX10_readsRest_41 ⟨by decide, by decide⟩ ?_
    obtain ⟨o1, k⟩ := k
    refine aw_callV (M' := mm_X10_reads) 10 [vI 0, vI 0, vI 1] [] lk_X10_155 ⟨_, rfl, rfl⟩ dX10_readsRest_42 rfl (Nat.le_of_ble_eq_true rfl) ⟨by decide, by decide, Nat.zero_le _, Nat.zero_le _⟩ o1 ?_
    exact k.mono (fun _ _ z => aw_sub [0] rfl z)
  · have k := k.2.2.1 hc
    refine aw_tableIn (tgt := 104) dX10_readsRest_1 (by omega) (by omega) (by rw [hc]; rfl) (by decide) ?_
    refine aw_aload_n 0 dX10_readsRest_104 rfl rfl ?_
    refine aw_iconst dX10_readsRest_105 ⟨by decide, by decide⟩ ?_
    refine aw_iconst dX10_readsRest_106 ⟨by decide, by decide⟩ ?_
    refine aw_iconst dX10_readsRest_107 ⟨by decide, by decide⟩ ?_
    obtain ⟨o2, k⟩ := k
    refine aw_callV (M' := mm_X10_reads) 10 [vI 0, vI 0, vI 1] [] lk_X10_155 ⟨_, rfl, rfl⟩ dX10_readsRest_108 rfl (Nat.le_of_ble_eq_true rfl) ⟨by decide, by decide, Nat.zero_le _, Nat.zero_le _⟩ o2 ?_
    exact k.mono (fun _ _ z => aw_sub [0] rfl z)
  · have k := k.2.2.2.1 hc
    refine aw_tableIn (tgt := 143) dX10_readsRest_1 (by omega) (by omega) (by rw [hc]; rfl) (by decide) ?_
    refine aw_aload_n 0 dX10_readsRest_143 rfl rfl ?_
    refine aw_iconst dX10_readsRest_144 ⟨by decide, by decide⟩ ?_
    refine aw_iconst dX10_readsRest_145 ⟨by decide, by decide⟩ ?_
    refine aw_iconst dX10_readsRest_146 ⟨by decide, by decide⟩ ?_
    obtain ⟨o3, k⟩ := k
    refine aw_callV (M' := mm_X10_reads) 10 [vI 0, vI 0, vI 1] [] lk_X10_155 ⟨_, rfl, rfl⟩ dX10_readsRest_147 rfl (Nat.le_of_ble_eq_true rfl) ⟨by decide, by decide, Nat.zero_le _, Nat.zero_le _⟩ o3 ?_
    exact k.mono (fun _ _ z => aw_sub [0] rfl z)
  · have k := k.2.2.2.2.1 hc
    refine aw_tableIn (tgt := 170) dX10_readsRest_1 (by omega) (by omega) (by rw [hc]; rfl) (by decide) ?_
    refine aw_aload_n 0 dX10_readsRest_170 rfl rfl ?_
    refine aw_iconst dX10_readsRest_171 ⟨by decide, by decide⟩ ?_
    refine aw_iconst dX10_readsRest_172 ⟨by decide, by decide⟩ ?_
    refine aw_iconst dX10_readsRest_173 ⟨by decide, by decide⟩ ?_
    obtain ⟨o4, k⟩ := k
    refine aw_callV (M' := mm_X10_reads) 10 [vI 0, vI 0, vI 3] [] lk_X10_155 ⟨_, rfl, rfl⟩ dX10_readsRest_174 rfl (Nat.le_of_ble_eq_true rfl) ⟨by decide, by decide, Nat.zero_le _, Nat.zero_le _⟩ o4 ?_
    exact k.mono (fun _ _ z => aw_sub [0] rfl z)
  · have k := k.2.2.2.2.2 hc
    refine aw_tableOut (tgt := 207) dX10_readsRest_1 hc (by decide) ?_
    refine aw_aload_n 0 dX10_readsRest_207 rfl rfl ?_
    refine aw_iconst dX10_readsRest_208 ⟨by decide, by decide⟩ ?_
    refine aw_iconst dX10_readsRest_209 ⟨by decide, by decide⟩ ?_
    refine aw_iconst dX10_readsRest_210 ⟨by decide, by decide⟩ ?_
    obtain ⟨o5, k⟩ := k
    refine aw_callV (M' := mm_X10_reads) 10 [vI 0, vI 0, vI 1] [] lk_X10_155 ⟨_, rfl, rfl⟩ dX10_readsRest_211 rfl (Nat.le_of_ble_eq_true rfl) ⟨by decide, by decide, Nat.zero_le _, Nat.zero_le _⟩ o5 ?_
    exact k.mono (fun _ _ z => aw_sub [] rfl z)
theorem rn_X10_readsRest {G : GG} {Q : Option VV → Hp → Prop} {v0 v1 : Int} {h : Hp} (k : ((v1 = 0) → Q (some (vI 1)) h) ∧ ((v1 = 1) → (h v0 (-1) = 11) ∧ Runs G mm_X10_reads [vR v0, vI 0, vI 0, vI 1] h (fun r h' => AW G mm_X10_readsRest (0, 0) 45 [(0, vR v0)] (r.toList ++ []) h' Q)) ∧ ((v1 = 2) → (h v0 (-1) = 11) ∧ Runs G mm_X10_reads [vR v0, vI 0, vI 0, vI 1] h (fun r h' => AW G mm_X10_readsRest (0, 0) 111 [(0, vR v0)] (r.toList ++ []) h' Q)) ∧ ((v1 = 3) → (h v0 (-1) = 11) ∧ Runs G mm_X10_reads [vR v0, vI 0, vI 0, vI 1] h (fun r h' => AW G mm_X10_readsRest (0, 0) 150 [(0, vR v0)] (r.toList ++ []) h' Q)) ∧ ((v1 = 4) → (h v0 (-1) = 11) ∧ Runs G mm_X10_reads [vR v0, vI 0, vI 0, vI 3] h (fun r h' => AW G mm_X10_readsRest (0, 0) 177 [(0, vR v0)] (r.toList ++ []) h' Q)) ∧ ((v1 < 0 ∨ 4 < v1) → (h v0 (-1) = 11) ∧ Runs G mm_X10_reads [vR v0, vI 0, vI 0, vI 1] h (fun r h' => AW G mm_X10_readsRest (0, 0) 214 [] (r.toList ++ []) h' Q))) : Runs G mm_X10_readsRest [vR v0, vI v1] h Q := Runs.of (by decide +kernel) (Nat.le_of_ble_eq_true rfl) (sg_X10_readsRest_0 (b := (0, 0)) k)
set_option maxRecDepth 20000 in
theorem sg_X10_readsRest_45 {G : GG} {b : Nat × Nat} {Q : Option VV → Hp → Prop} {v0 s0 : Int} {h : Hp} (k : ((s0 = 0) → Q (some (vI 0)) h) ∧ ((¬ (s0 = 0)) → (h v0 (-1) = 11) ∧ Runs G mm_X10_reads [vR v0, vI 1, vI 0, vI 3] h (fun r h' => AW G mm_X10_readsRest b 55 [(0, vR v0)] (r.toList ++ []) h' Q))) : AW G mm_X10_readsRest b 45 [(0, vR v0)] [vI s0] h Q := by
  refine aw_if_eq (tgt := 102) dX10_readsRest_45 (by decide) (fun hc => ?_) (fun hc => ?_)
  · have k := k.1 hc
    refine aw_iconst dX10_readsRest_102 ⟨by decide, by decide⟩ ?_
    exact aw_zret dX10_readsRest_103 rfl (by decide) k
  · have k := k.2 hc
    refine aw_aload_n 0 dX10_readsRest_48 rfl rfl ?_
    refine aw_iconst dX10_readsRest_49 ⟨by decide, by decide⟩ ?_
    refine aw_iconst dX10_readsRest_50 ⟨by decide, by decide⟩ ?_
    refine aw_iconst dX10_readsRest_51 ⟨by decide, by decide⟩ ?_
    obtain ⟨o1, k⟩ := k
    refine aw_callV (M' := mm_X10_reads) 10 [vI 1, vI 0, vI 3] [] lk_X10_155 ⟨_, rfl, rfl⟩ dX10_readsRest_52 rfl (Nat.le_of_ble_eq_true rfl) ⟨by decide, by decide, Nat.zero_le _, Nat.zero_le _⟩ o1 ?_
    exact k
set_option maxRecDepth 20000 in
theorem sg_X10_readsRest_111 {G : GG} {b : Nat × Nat} {Q : Option VV → Hp → Prop} {v0 s0 : Int} {h : Hp} (k : ((s0 = 0) → Q (some (vI 0)) h) ∧ ((¬ (s0 = 0)) → (h v0 (-1) = 11) ∧ Runs G mm_X10_reads [vR v0, vI 1, vI 0, vI 11] h (fun r h' => AW G mm_X10_readsRest b 122 [(0, vR v0)] (r.toList ++ []) h' Q))) : AW G mm_X10_readsRest b 111 [(0, vR v0)] [vI s0] h Q := by
  refine aw_if_eq (tgt := 141) dX10_readsRest_111 (by decide) (fun hc => ?_) (fun hc => ?_)
  · have k := k.1 hc
    refine aw_iconst dX10_readsRest_141 ⟨by decide, by decide⟩ ?_
    exact aw_zret dX10_readsRest_142 rfl (by decide) k
  · have k := k.2 hc
    refine aw_aload_n 0 dX10_readsRest_114 rfl rfl ?_
    refine aw_iconst dX10_readsRest_115 ⟨by decide, by decide⟩ ?_
    refine aw_iconst dX10_readsRest_116 ⟨by decide, by decide⟩ ?_
    refine aw_bipush dX10_readsRest_117 ⟨by decide, by decide⟩ (by decide) ?_
    obtain ⟨o1, k⟩ := k
    refine aw_callV (M' := mm_X10_reads) 10 [vI 1, vI 0, vI 11] [] lk_X10_155 ⟨_, rfl, rfl⟩ dX10_readsRest_119 rfl (Nat.le_of_ble_eq_true rfl) ⟨by decide, by decide, Nat.zero_le _, Nat.zero_le _⟩ o1 ?_
    exact k
set_option maxRecDepth 20000 in
theorem sg_X10_readsRest_150 {G : GG} {b : Nat × Nat} {Q : Option VV → Hp → Prop} {v0 s0 : Int} {h : Hp} (k : ((s0 = 0) → Q (some (vI 0)) h) ∧ ((¬ (s0 = 0)) → (h v0 (-1) = 11) ∧ Runs G mm_X10_reads [vR v0, vI 1, vI 1, vI 9] h (fun r h' => AW G mm_X10_readsRest b 161 [] (r.toList ++ []) h' Q))) : AW G mm_X10_readsRest b 150 [(0, vR v0)] [vI s0] h Q := by
  refine aw_if_eq (tgt := 168) dX10_readsRest_150 (by decide) (fun hc => ?_) (fun hc => ?_)
  · have k := k.1 hc
    refine aw_iconst dX10_readsRest_168 ⟨by decide, by decide⟩ ?_
    exact aw_zret dX10_readsRest_169 rfl (by decide) k
  · have k := k.2 hc
    refine aw_aload_n 0 dX10_readsRest_153 rfl rfl ?_
    refine aw_iconst dX10_readsRest_154 ⟨by decide, by decide⟩ ?_
    refine aw_iconst dX10_readsRest_155 ⟨by decide, by decide⟩ ?_
    refine aw_bipush dX10_readsRest_156 ⟨by decide, by decide⟩ (by decide) ?_
    obtain ⟨o1, k⟩ := k
    refine aw_callV (M' := mm_X10_reads) 10 [vI 1, vI 1, vI 9] [] lk_X10_155 ⟨_, rfl, rfl⟩ dX10_readsRest_158 rfl (Nat.le_of_ble_eq_true rfl) ⟨by decide, by decide, Nat.zero_le _, Nat.zero_le _⟩ o1 ?_
    exact k.mono (fun _ _ z => aw_sub [] rfl z)
set_option maxRecDepth 20000 in
theorem sg_X10_readsRest_177 {G : GG} {b : Nat × Nat} {Q : Option VV → Hp → Prop} {v0 s0 : Int} {h : Hp} (k : ((s0 = 0) → Q (some (vI 0)) h) ∧ ((¬ (s0 = 0)) → (h v0 (-1) = 11) ∧ Runs G mm_X10_reads [vR v0, vI 1, vI 0, vI 3] h (fun r h' => AW G mm_X10_readsRest b 187 [(0, vR v0)] (r.toList ++ []) h' Q))) : AW G mm_X10_readsRest b 177 [(0, vR v0)] [vI s0] h Q := by
  refine aw_if_eq (tgt := 205) dX10_readsRest_177 (by decide) (fun hc => ?_) (fun hc => ?_)
  · have k := k.1 hc
    refine aw_iconst dX10_readsRest_205 ⟨by decide, by decide⟩ ?_
    exact aw_zret dX10_readsRest_206 rfl (by decide) k
  · have k := k.2 hc
    refine aw_aload_n 0 dX10_readsRest_180 rfl rfl ?_
    refine aw_iconst dX10_readsRest_181 ⟨by decide, by decide⟩ ?_
    refine aw_iconst dX10_readsRest_182 ⟨by decide, by decide⟩ ?_
    refine aw_iconst dX10_readsRest_183 ⟨by decide, by decide⟩ ?_
    obtain ⟨o1, k⟩ := k
    refine aw_callV (M' := mm_X10_reads) 10 [vI 1, vI 0, vI 3] [] lk_X10_155 ⟨_, rfl, rfl⟩ dX10_readsRest_184 rfl (Nat.le_of_ble_eq_true rfl) ⟨by decide, by decide, Nat.zero_le _, Nat.zero_le _⟩ o1 ?_
    exact k
set_option maxRecDepth 20000 in
theorem sg_X10_readsRest_214 {G : GG} {b : Nat × Nat} {Q : Option VV → Hp → Prop} {s0 : Int} {h : Hp} (k : (s0 = 0 ∨ s0 = 1) ∧ Q (some (vI s0)) h) : AW G mm_X10_readsRest b 214 [] [vI s0] h Q := by
  obtain ⟨o1, k⟩ := k
  exact aw_zret dX10_readsRest_214 rfl o1 k
set_option maxRecDepth 20000 in
theorem sg_X10_readsRest_55 {G : GG} {b : Nat × Nat} {Q : Option VV → Hp → Prop} {v0 s0 : Int} {h : Hp} (k : ((s0 = 0) → Q (some (vI 0)) h) ∧ ((¬ (s0 = 0)) → (h v0 (-1) = 11) ∧ Runs G mm_X10_reads [vR v0, vI 2, vI 0, vI 11] h (fun r h' => AW G mm_X10_readsRest b 66 [(0, vR v0)] (r.toList ++ []) h' Q))) : AW G mm_X10_readsRest b 55 [(0, vR v0)] [vI s0] h Q := by
  refine aw_if_eq (tgt := 102) dX10_readsRest_55 (by decide) (fun hc => ?_) (fun hc => ?_)
  · have k := k.1 hc
    refine aw_iconst dX10_readsRest_102 ⟨by decide, by decide⟩ ?_
    exact aw_zret dX10_readsRest_103 rfl (by decide) k
  · have k := k.2 hc
    refine aw_aload_n 0 dX10_readsRest_58 rfl rfl ?_
    refine aw_iconst dX10_readsRest_59 ⟨by decide, by decide⟩ ?_
    refine aw_iconst dX10_readsRest_60 ⟨by decide, by decide⟩ ?_
    refine aw_bipush dX10_readsRest_61 ⟨by decide, by decide⟩ (by decide) ?_
    obtain ⟨o1, k⟩ := k
    refine aw_callV (M' := mm_X10_reads) 10 [vI 2, vI 0, vI 11] [] lk_X10_155 ⟨_, rfl, rfl⟩ dX10_readsRest_63 rfl (Nat.le_of_ble_eq_true rfl) ⟨by decide, by decide, Nat.zero_le _, Nat.zero_le _⟩ o1 ?_
    exact k
set_option maxRecDepth 20000 in
theorem sg_X10_readsRest_122 {G : GG} {b : Nat × Nat} {Q : Option VV → Hp → Prop} {v0 s0 : Int} {h : Hp} (k : ((s0 = 0) → Q (some (vI 0)) h) ∧ ((¬ (s0 = 0)) → (h v0 (-1) = 11) ∧ Runs G mm_X10_reads [vR v0, vI 2, vI 0, vI 9999] h (fun r h' => AW G mm_X10_readsRest b 134 [] (r.toList ++ []) h' Q))) : AW G mm_X10_readsRest b 122 [(0, vR v0)] [vI s0] h Q := by
  refine aw_if_eq (tgt := 141) dX10_readsRest_122 (by decide) (fun hc => ?_) (fun hc => ?_)
  · have k := k.1 hc
    refine aw_iconst dX10_readsRest_141 ⟨by decide, by decide⟩ ?_
    exact aw_zret dX10_readsRest_142 rfl (by decide) k
  · have k := k.2 hc
    refine aw_aload_n 0 dX10_readsRest_125 rfl rfl ?_
    refine aw_iconst dX10_readsRest_126 ⟨by decide, by decide⟩ ?_
    refine aw_iconst dX10_readsRest_127 ⟨by decide, by decide⟩ ?_
    refine aw_sipush dX10_readsRest_128 ⟨by decide, by decide⟩ (by decide) ?_
    obtain ⟨o1, k⟩ := k
    refine aw_callV (M' := mm_X10_reads) 10 [vI 2, vI 0, vI 9999] [] lk_X10_155 ⟨_, rfl, rfl⟩ dX10_readsRest_131 rfl (Nat.le_of_ble_eq_true rfl) ⟨by decide, by decide, Nat.zero_le _, Nat.zero_le _⟩ o1 ?_
    exact k.mono (fun _ _ z => aw_sub [] rfl z)
set_option maxRecDepth 20000 in
theorem sg_X10_readsRest_161 {G : GG} {b : Nat × Nat} {Q : Option VV → Hp → Prop} {s0 : Int} {h : Hp} (k : ((s0 = 0) → Q (some (vI 0)) h) ∧ ((¬ (s0 = 0)) → Q (some (vI 1)) h)) : AW G mm_X10_readsRest b 161 [] [vI s0] h Q := by
  refine aw_if_eq (tgt := 168) dX10_readsRest_161 (by decide) (fun hc => ?_) (fun hc => ?_)
  · have k := k.1 hc
    refine aw_iconst dX10_readsRest_168 ⟨by decide, by decide⟩ ?_
    exact aw_zret dX10_readsRest_169 rfl (by decide) k
  · have k := k.2 hc
    refine aw_iconst dX10_readsRest_164 ⟨by decide, by decide⟩ ?_
    refine aw_goto (tgt := 169) dX10_readsRest_165 (by decide) ?_
    exact aw_zret dX10_readsRest_169 rfl (by decide) k
set_option maxRecDepth 20000 in
theorem sg_X10_readsRest_187 {G : GG} {b : Nat × Nat} {Q : Option VV → Hp → Prop} {v0 s0 : Int} {h : Hp} (k : ((s0 = 0) → Q (some (vI 0)) h) ∧ ((¬ (s0 = 0)) → (h v0 (-1) = 11) ∧ Runs G mm_X10_reads [vR v0, vI 2, vI 0, vI 11] h (fun r h' => AW G mm_X10_readsRest b 198 [] (r.toList ++ []) h' Q))) : AW G mm_X10_readsRest b 187 [(0, vR v0)] [vI s0] h Q := by
  refine aw_if_eq (tgt := 205) dX10_readsRest_187 (by decide) (fun hc => ?_) (fun hc => ?_)
  · have k := k.1 hc
    refine aw_iconst dX10_readsRest_205 ⟨by decide, by decide⟩ ?_
    exact aw_zret dX10_readsRest_206 rfl (by decide) k
  · have k := k.2 hc
    refine aw_aload_n 0 dX10_readsRest_190 rfl rfl ?_
    refine aw_iconst dX10_readsRest_191 ⟨by decide, by decide⟩ ?_
    refine aw_iconst dX10_readsRest_192 ⟨by decide, by decide⟩ ?_
    refine aw_bipush dX10_readsRest_193 ⟨by decide, by decide⟩ (by decide) ?_
    obtain ⟨o1, k⟩ := k
    refine aw_callV (M' := mm_X10_reads) 10 [vI 2, vI 0, vI 11] [] lk_X10_155 ⟨_, rfl, rfl⟩ dX10_readsRest_195 rfl (Nat.le_of_ble_eq_true rfl) ⟨by decide, by decide, Nat.zero_le _, Nat.zero_le _⟩ o1 ?_
    exact k.mono (fun _ _ z => aw_sub [] rfl z)
set_option maxRecDepth 20000 in
theorem sg_X10_readsRest_66 {G : GG} {b : Nat × Nat} {Q : Option VV → Hp → Prop} {v0 s0 : Int} {h : Hp} (k : ((s0 = 0) → Q (some (vI 0)) h) ∧ ((¬ (s0 = 0)) → (h v0 (-1) = 11) ∧ (h (h v0 36) (-1) = 20) ∧ (2 < h (h v0 36) (-2)) ∧ (inI (12 - (h (h v0 36) 2))) ∧ Runs G mm_X10_reads [vR v0, vI 3, vI 1, vI (12 - (h (h v0 36) 2))] h (fun r h' => AW G mm_X10_readsRest b 84 [(0, vR v0)] (r.toList ++ []) h' Q))) : AW G mm_X10_readsRest b 66 [(0, vR v0)] [vI s0] h Q := by
  refine aw_if_eq (tgt := 102) dX10_readsRest_66 (by decide) (fun hc => ?_) (fun hc => ?_)
  · have k := k.1 hc
    refine aw_iconst dX10_readsRest_102 ⟨by decide, by decide⟩ ?_
    exact aw_zret dX10_readsRest_103 rfl (by decide) k
  · have k := k.2 hc
    refine aw_aload_n 0 dX10_readsRest_69 rfl rfl ?_
    refine aw_iconst dX10_readsRest_70 ⟨by decide, by decide⟩ ?_
    refine aw_iconst dX10_readsRest_71 ⟨by decide, by decide⟩ ?_
    refine aw_bipush dX10_readsRest_72 ⟨by decide, by decide⟩ (by decide) ?_
    refine aw_aload_n 0 dX10_readsRest_74 rfl rfl ?_
    obtain ⟨o1, k⟩ := k
    refine aw_getR dX10_readsRest_75 fl_X10_86 rfl o1 (x := (h v0 36)) rfl ?_
    refine aw_iconst dX10_readsRest_78 ⟨by decide, by decide⟩ ?_
    obtain ⟨o2, k⟩ := k
    obtain ⟨o3, k⟩ := k
    refine aw_iald dX10_readsRest_79 o2 (by decide) o3 (x := (h (h v0 36) 2)) rfl ?_
    obtain ⟨o4, k⟩ := k
    refine aw_isub dX10_readsRest_80 o4 ?_
    refine aw_callV (M' := mm_X10_reads) 10 [vI 3, vI 1, vI (12 - (h (h v0 36) 2))] [] lk_X10_155 ⟨_, rfl, rfl⟩ dX10_readsRest_81 rfl (Nat.le_of_ble_eq_true rfl) ⟨by decide, by decide, Nat.zero_le _, Nat.zero_le _⟩ o1 ?_
    exact k
set_option maxRecDepth 20000 in
theorem sg_X10_readsRest_134 {G : GG} {b : Nat × Nat} {Q : Option VV → Hp → Prop} {s0 : Int} {h : Hp} (k : ((s0 = 0) → Q (some (vI 0)) h) ∧ ((¬ (s0 = 0)) → Q (some (vI 1)) h)) : AW G mm_X10_readsRest b 134 [] [vI s0] h Q := by
  refine aw_if_eq (tgt := 141) dX10_readsRest_134 (by decide) (fun hc => ?_) (fun hc => ?_)
  · have k := k.1 hc
    refine aw_iconst dX10_readsRest_141 ⟨by decide, by decide⟩ ?_
    exact aw_zret dX10_readsRest_142 rfl (by decide) k
  · have k := k.2 hc
    refine aw_iconst dX10_readsRest_137 ⟨by decide, by decide⟩ ?_
    refine aw_goto (tgt := 142) dX10_readsRest_138 (by decide) ?_
    exact aw_zret dX10_readsRest_142 rfl (by decide) k
set_option maxRecDepth 20000 in
theorem sg_X10_readsRest_198 {G : GG} {b : Nat × Nat} {Q : Option VV → Hp → Prop} {s0 : Int} {h : Hp} (k : ((s0 = 0) → Q (some (vI 0)) h) ∧ ((¬ (s0 = 0)) → Q (some (vI 1)) h)) : AW G mm_X10_readsRest b 198 [] [vI s0] h Q := by
  refine aw_if_eq (tgt := 205) dX10_readsRest_198 (by decide) (fun hc => ?_) (fun hc => ?_)
  · have k := k.1 hc
    refine aw_iconst dX10_readsRest_205 ⟨by decide, by decide⟩ ?_
    exact aw_zret dX10_readsRest_206 rfl (by decide) k
  · have k := k.2 hc
    refine aw_iconst dX10_readsRest_201 ⟨by decide, by decide⟩ ?_
    refine aw_goto (tgt := 206) dX10_readsRest_202 (by decide) ?_
    exact aw_zret dX10_readsRest_206 rfl (by decide) k
set_option maxRecDepth 20000 in
theorem sg_X10_readsRest_84 {G : GG} {b : Nat × Nat} {Q : Option VV → Hp → Prop} {v0 s0 : Int} {h : Hp} (k : ((s0 = 0) → Q (some (vI 0)) h) ∧ ((¬ (s0 = 0)) → (h v0 (-1) = 11) ∧ Runs G mm_X10_reads [vR v0, vI 4, vI 0, vI 7] h (fun r h' => AW G mm_X10_readsRest b 95 [] (r.toList ++ []) h' Q))) : AW G mm_X10_readsRest b 84 [(0, vR v0)] [vI s0] h Q := by
  refine aw_if_eq (tgt := 102) dX10_readsRest_84 (by decide) (fun hc => ?_) (fun hc => ?_)
  · have k := k.1 hc
    refine aw_iconst dX10_readsRest_102 ⟨by decide, by decide⟩ ?_
    exact aw_zret dX10_readsRest_103 rfl (by decide) k
  · have k := k.2 hc
    refine aw_aload_n 0 dX10_readsRest_87 rfl rfl ?_
    refine aw_iconst dX10_readsRest_88 ⟨by decide, by decide⟩ ?_
    refine aw_iconst dX10_readsRest_89 ⟨by decide, by decide⟩ ?_
    refine aw_bipush dX10_readsRest_90 ⟨by decide, by decide⟩ (by decide) ?_
    obtain ⟨o1, k⟩ := k
    refine aw_callV (M' := mm_X10_reads) 10 [vI 4, vI 0, vI 7] [] lk_X10_155 ⟨_, rfl, rfl⟩ dX10_readsRest_92 rfl (Nat.le_of_ble_eq_true rfl) ⟨by decide, by decide, Nat.zero_le _, Nat.zero_le _⟩ o1 ?_
    exact k.mono (fun _ _ z => aw_sub [] rfl z)
set_option maxRecDepth 20000 in
theorem sg_X10_readsRest_95 {G : GG} {b : Nat × Nat} {Q : Option VV → Hp → Prop} {s0 : Int} {h : Hp} (k : ((s0 = 0) → Q (some (vI 0)) h) ∧ ((¬ (s0 = 0)) → Q (some (vI 1)) h)) : AW G mm_X10_readsRest b 95 [] [vI s0] h Q := by
  refine aw_if_eq (tgt := 102) dX10_readsRest_95 (by decide) (fun hc => ?_) (fun hc => ?_)
  · have k := k.1 hc
    refine aw_iconst dX10_readsRest_102 ⟨by decide, by decide⟩ ?_
    exact aw_zret dX10_readsRest_103 rfl (by decide) k
  · have k := k.2 hc
    refine aw_iconst dX10_readsRest_98 ⟨by decide, by decide⟩ ?_
    refine aw_goto (tgt := 103) dX10_readsRest_99 (by decide) ?_
    exact aw_zret dX10_readsRest_103 rfl (by decide) k
