/-! printed by writeseg.py: segments of methods -/
set_option maxRecDepth 20000 in
theorem sg_X10_post_0 {G : GG} {b : Nat × Nat} {Q : Option VV → Hp → Prop} {v0 v1 v2 v3 v4 v5 : Int} {h : Hp} (k : (h v0 (-1) = 11) ∧ (h (h v0 4) (-1) = 20) ∧ (0 ≤ v1) ∧ (v1 < h (h v0 4) (-2)) ∧ (((h (h v0 4) v1) = 1) → AW G mm_X10_post b 20 [(0, vR v0), (1, vI v1), (2, vI v2), (3, vI v3), (4, vI v4), (5, vI v5), (6, vI 0), (7, vI 0)] [] h Q) ∧ ((¬ ((h (h v0 4) v1) = 1)) → Q (some (vI (-1003))) h)) : AW G mm_X10_post b 0 [(0, vR v0), (1, vI v1), (2, vI v2), (3, vI v3), (4, vI v4), (5, vI v5)] [] h Q := by
  refine aw_aload_n 0 dX10_post_0 rfl rfl ?_
  obtain ⟨o1, k⟩ := k
  refine aw_getR dX10_post_1 fl_X10_22 rfl o1 (x := (h v0 4)) rfl ?_
  refine aw_iload_n 1 dX10_post_4 rfl rfl ?_
  obtain ⟨o2, k⟩ := k
  obtain ⟨o3, k⟩ := k
  obtain ⟨o4, k⟩ := k
  refine aw_iald dX10_post_5 o2 o3 o4 (x := (h (h v0 4) v1)) rfl ?_
  refine aw_iconst dX10_post_6 ⟨by decide, by decide⟩ ?_
  refine aw_icmp_eq (tgt := 14) dX10_post_7 (by decide) (fun hc => ?_) (fun hc => ?_)
  · have k := k.1 hc
    refine aw_iconst dX10_post_14 ⟨by decide, by decide⟩ ?_
    refine aw_istore dX10_post_15 (by decide) ?_
    refine aw_iconst dX10_post_17 ⟨by decide, by decide⟩ ?_
    refine aw_istore dX10_post_18 (by decide) ?_
    exact aw_sub [2, 3, 4, 5, 6, 7, 1, 0] rfl k
  · have k := k.2 hc
    refine aw_sipush dX10_post_10 ⟨by decide, by decide⟩ (by decide) ?_
    exact aw_iret dX10_post_13 rfl k
theorem rn_X10_post {G : GG} {Q : Option VV → Hp → Prop} {v0 v1 v2 v3 v4 v5 : Int} {h : Hp} (k : (h v0 (-1) = 11) ∧ (h (h v0 4) (-1) = 20) ∧ (0 ≤ v1) ∧ (v1 < h (h v0 4) (-2)) ∧ (((h (h v0 4) v1) = 1) → AW G mm_X10_post (0, 0) 20 [(0, vR v0), (1, vI v1), (2, vI v2), (3, vI v3), (4, vI v4), (5, vI v5), (6, vI 0), (7, vI 0)] [] h Q) ∧ ((¬ ((h (h v0 4) v1) = 1)) → Q (some (vI (-1003))) h)) : Runs G mm_X10_post [vR v0, vI v1, vI v2, vI v3, vI v4, vI v5] h Q := Runs.of (by decide +kernel) (Nat.le_of_ble_eq_true rfl) (sg_X10_post_0 (b := (0, 0)) k)
set_option maxRecDepth 20000 in
theorem sg_X10_post_20 {G : GG} {b : Nat × Nat} {Q : Option VV → Hp → Prop} {v0 v1 v2 v3 v4 v5 v6 v7 : Int} {h : Hp} (k : (h v0 (-1) = 11) ∧ (h (h v0 6) (-1) = 20) ∧ (0 ≤ v1) ∧ (v1 < h (h v0 6) (-2)) ∧ (((h (h v0 6) v1) ≤ v7) → (((h (h v0 6) v1) = 4) → Q (some (vI (-1004))) h) ∧ ((¬ ((h (h v0 6) v1) = 4)) → ((v2 ≤ 1) → (inI (4 * v1)) ∧ (inI ((4 * v1) + (h (h v0 6) v1))) ∧ (inI (7 * ((4 * v1) + (h (h v0 6) v1)))) ∧ (inI ((7 * ((4 * v1) + (h (h v0 6) v1))) + 0)) ∧ (h (h v0 5) (-1) = 20) ∧ (v1 < h (h v0 5) (-2)) ∧ (h (h v0 7) (-1) = 20) ∧ (0 ≤ ((7 * ((4 * v1) + (h (h v0 6) v1))) + 0)) ∧ (((7 * ((4 * v1) + (h (h v0 6) v1))) + 0) < h (h v0 7) (-2)) ∧ ∀ h1, h1 = wr h (h v0 7) ((7 * ((4 * v1) + (h (h v0 6) v1))) + 0) (h (h v0 5) v1) → (inI ((7 * ((4 * v1) + (h (h v0 6) v1))) + 1)) ∧ (0 ≤ ((7 * ((4 * v1) + (h (h v0 6) v1))) + 1)) ∧ (((7 * ((4 * v1) + (h (h v0 6) v1))) + 1) < h (h v0 7) (-2)) ∧ ∀ h2, h2 = wr h1 (h v0 7) ((7 * ((4 * v1) + (h (h v0 6) v1))) + 1) v2 → (inI ((7 * ((4 * v1) + (h (h v0 6) v1))) + 2)) ∧ (h (h v0 16) (-1) = 20) ∧ (v1 < h (h v0 16) (-2)) ∧ (0 ≤ ((7 * ((4 * v1) + (h (h v0 6) v1))) + 2)) ∧ (((7 * ((4 * v1) + (h (h v0 6) v1))) + 2) < h (h v0 7) (-2)) ∧ ∀ h3, h3 = wr h2 (h v0 7) ((7 * ((4 * v1) + (h (h v0 6) v1))) + 2) (h2 (h v0 16) v1) → (inI ((7 * ((4 * v1) + (h (h v0 6) v1))) + 3)) ∧ (h (h v0 17) (-1) = 20) ∧ (v1 < h (h v0 17) (-2)) ∧ (0 ≤ ((7 * ((4 * v1) + (h (h v0 6) v1))) + 3)) ∧ (((7 * ((4 * v1) + (h (h v0 6) v1))) + 3) < h (h v0 7) (-2)) ∧ ∀ h4, h4 = wr h3 (h v0 7) ((7 * ((4 * v1) + (h (h v0 6) v1))) + 3) (h3 (h v0 17) v1) → (inI ((7 * ((4 * v1) + (h (h v0 6) v1))) + 4)) ∧ (0 ≤ ((7 * ((4 * v1) + (h (h v0 6) v1))) + 4)) ∧ (((7 * ((4 * v1) + (h (h v0 6) v1))) + 4) < h (h v0 7) (-2)) ∧ ∀ h5, h5 = wr h4 (h v0 7) ((7 * ((4 * v1) + (h (h v0 6) v1))) + 4) v3 → (inI ((7 * ((4 * v1) + (h (h v0 6) v1))) + 5)) ∧ (0 ≤ ((7 * ((4 * v1) + (h (h v0 6) v1))) + 5)) ∧ (((7 * ((4 * v1) + (h (h v0 6) v1))) + 5) < h (h v0 7) (-2)) ∧ ∀ h6, h6 = wr h5 (h v0 7) ((7 * ((4 * v1) + (h (h v0 6) v1))) + 5) v4 → (inI ((7 * ((4 * v1) + (h (h v0 6) v1))) + 6)) ∧ (0 ≤ ((7 * ((4 * v1) + (h (h v0 6) v1))) + 6)) ∧ (((7 * ((4 * v1) + (h (h v0 6) v1))) + 6) < h (h v0 7) (-2)) ∧ ∀ h7, h7 = wr h6 (h v0 7) ((7 * ((4 * v1) + (h (h v0 6) v1))) + 6) v5 → (inI ((h7 (h v0 6) v1) + 1)) ∧ ∀ h8, h8 = wr h7 (h v0 6) v1 ((h7 (h v0 6) v1) + 1) → (inI ((h8 (h v0 5) v1) + 1)) ∧ ∀ h9, h9 = wr h8 (h v0 5) v1 ((h8 (h v0 5) v1) + 1) → (inI ((h9 (h v0 6) v1) - 1)) ∧ Runs G mm_X10_sendsWork [vR v0, vI v1, vI ((h9 (h v0 6) v1) - 1)] h9 (fun r h' => AW G mm_X10_post b 228 [(0, vR v0), (1, vI v1)] (r.toList ++ []) h' Q)) ∧ ((¬ (v2 ≤ 1)) → ((¬ v6 = 2) → (inI (4 * v1)) ∧ (inI ((4 * v1) + (h (h v0 6) v1))) ∧ (inI (7 * ((4 * v1) + (h (h v0 6) v1)))) ∧ (inI ((7 * ((4 * v1) + (h (h v0 6) v1))) + 0)) ∧ (h (h v0 5) (-1) = 20) ∧ (v1 < h (h v0 5) (-2)) ∧ (h (h v0 7) (-1) = 20) ∧ (0 ≤ ((7 * ((4 * v1) + (h (h v0 6) v1))) + 0)) ∧ (((7 * ((4 * v1) + (h (h v0 6) v1))) + 0) < h (h v0 7) (-2)) ∧ ∀ h1, h1 = wr h (h v0 7) ((7 * ((4 * v1) + (h (h v0 6) v1))) + 0) (h (h v0 5) v1) → (inI ((7 * ((4 * v1) + (h (h v0 6) v1))) + 1)) ∧ (0 ≤ ((7 * ((4 * v1) + (h (h v0 6) v1))) + 1)) ∧ (((7 * ((4 * v1) + (h (h v0 6) v1))) + 1) < h (h v0 7) (-2)) ∧ ∀ h2, h2 = wr h1 (h v0 7) ((7 * ((4 * v1) + (h (h v0 6) v1))) + 1) v2 → (inI ((7 * ((4 * v1) + (h (h v0 6) v1))) + 2)) ∧ (h (h v0 16) (-1) = 20) ∧ (v1 < h (h v0 16) (-2)) ∧ (0 ≤ ((7 * ((4 * v1) + (h (h v0 6) v1))) + 2)) ∧ (((7 * ((4 * v1) + (h (h v0 6) v1))) + 2) < h (h v0 7) (-2)) ∧ ∀ h3, h3 = wr h2 (h v0 7) ((7 * ((4 * v1) + (h (h v0 6) v1))) + 2) (h2 (h v0 16) v1) → (inI ((7 * ((4 * v1) + (h (h v0 6) v1))) + 3)) ∧ (h (h v0 17) (-1) = 20) ∧ (v1 < h (h v0 17) (-2)) ∧ (0 ≤ ((7 * ((4 * v1) + (h (h v0 6) v1))) + 3)) ∧ (((7 * ((4 * v1) + (h (h v0 6) v1))) + 3) < h (h v0 7) (-2)) ∧ ∀ h4, h4 = wr h3 (h v0 7) ((7 * ((4 * v1) + (h (h v0 6) v1))) + 3) (h3 (h v0 17) v1) → (inI ((7 * ((4 * v1) + (h (h v0 6) v1))) + 4)) ∧ (0 ≤ ((7 * ((4 * v1) + (h (h v0 6) v1))) + 4)) ∧ (((7 * ((4 * v1) + (h (h v0 6) v1))) + 4) < h (h v0 7) (-2)) ∧ ∀ h5, h5 = wr h4 (h v0 7) ((7 * ((4 * v1) + (h (h v0 6) v1))) + 4) v3 → (inI ((7 * ((4 * v1) + (h (h v0 6) v1))) + 5)) ∧ (0 ≤ ((7 * ((4 * v1) + (h (h v0 6) v1))) + 5)) ∧ (((7 * ((4 * v1) + (h (h v0 6) v1))) + 5) < h (h v0 7) (-2)) ∧ ∀ h6, h6 = wr h5 (h v0 7) ((7 * ((4 * v1) + (h (h v0 6) v1))) + 5) v4 → (inI ((7 * ((4 * v1) + (h (h v0 6) v1))) + 6)) ∧ (0 ≤ ((7 * ((4 * v1) + (h (h v0 6) v1))) + 6)) ∧ (((7 * ((4 * v1) + (h (h v0 6) v1))) + 6) < h (h v0 7) (-2)) ∧ ∀ h7, h7 = wr h6 (h v0 7) ((7 * ((4 * v1) + (h (h v0 6) v1))) + 6) v5 → (inI ((h7 (h v0 6) v1) + 1)) ∧ ∀ h8, h8 = wr h7 (h v0 6) v1 ((h7 (h v0 6) v1) + 1) → (inI ((h8 (h v0 5) v1) + 1)) ∧ ∀ h9, h9 = wr h8 (h v0 5) v1 ((h8 (h v0 5) v1) + 1) → (inI ((h9 (h v0 6) v1) - 1)) ∧ Runs G mm_X10_sendsWork [vR v0, vI v1, vI ((h9 (h v0 6) v1) - 1)] h9 (fun r h' => AW G mm_X10_post b 228 [(0, vR v0), (1, vI v1)] (r.toList ++ []) h' Q)) ∧ ((v6 = 2) → Q (some (vI (-1004))) h)))) ∧ ((¬ ((h (h v0 6) v1) ≤ v7)) → (inI (4 * v1)) ∧ (inI ((4 * v1) + v7)) ∧ (inI (7 * ((4 * v1) + v7))) ∧ (inI ((7 * ((4 * v1) + v7)) + 1)) ∧ (h (h v0 7) (-1) = 20) ∧ (0 ≤ ((7 * ((4 * v1) + v7)) + 1)) ∧ (((7 * ((4 * v1) + v7)) + 1) < h (h v0 7) (-2)) ∧ (((h (h v0 7) ((7 * ((4 * v1) + v7)) + 1)) ≤ 1) → (inI (v6 + 0)) ∧ (inI (v7 + 1)) ∧ AW G mm_X10_post b 20 [(0, vR v0), (1, vI v1), (2, vI v2), (3, vI v3), (4, vI v4), (5, vI v5), (6, vI (v6 + 0)), (7, vI (v7 + 1))] [] h Q) ∧ ((¬ ((h (h v0 7) ((7 * ((4 * v1) + v7)) + 1)) ≤ 1)) → (inI (v6 + 1)) ∧ (inI (v7 + 1)) ∧ AW G mm_X10_post b 20 [(0, vR v0), (1, vI v1), (2, vI v2), (3, vI v3), (4, vI v4), (5, vI v5), (6, vI (v6 + 1)), (7, vI (v7 + 1))] [] h Q))) : AW G mm_X10_post b 20 [(0, vR v0), (1, vI v1), (2, vI v2), (3, vI v3), (4, vI v4), (5, vI v5), (6, vI v6), (7, vI v7)] [] h Q := by
  refine aw_iload 7 dX10_post_20 rfl ?_
  refine aw_aload_n 0 dX10_post_22 rfl rfl ?_
  obtain ⟨o1, k⟩ := k
  refine aw_getR dX10_post_23 fl_X10_28 rfl o1 (x := (h v0 6)) rfl ?_
  refine aw_iload_n 1 dX10_post_26 rfl rfl ?_
  obtain ⟨o2, k⟩ := k
  obtain ⟨o3, k⟩ := k
  obtain ⟨o4, k⟩ := k
  refine aw_iald dX10_post_27 o2 o3 o4 (x := (h (h v0 6) v1)) rfl ?_
  refine aw_icmp_ge (tgt := 67) dX10_post_28 (by decide) (fun hc => ?_) (fun hc => ?_)
  · have k := k.1 hc
    refine aw_aload_n 0 dX10_post_67 rfl rfl ?_
    refine aw_getR dX10_post_68 fl_X10_28 rfl o1 (x := (h v0 6)) rfl ?_
    refine aw_iload_n 1 dX10_post_71 rfl rfl ?_
    refine aw_iald dX10_post_72 o2 o3 o4 (x := (h (h v0 6) v1)) rfl ?_
    refine aw_iconst dX10_post_73 ⟨by decide, by decide⟩ ?_
    refine aw_icmp_eq (tgt := 88) dX10_post_74 (by decide) (fun hc => ?_) (fun hc => ?_)
    · have k := k.1 hc
      refine aw_sipush dX10_post_88 ⟨by decide, by decide⟩ (by decide) ?_
      exact aw_iret dX10_post_91 rfl k
    · have k := k.2 hc
      refine aw_iload_n 2 dX10_post_77 rfl rfl ?_
      refine aw_iconst dX10_post_78 ⟨by decide, by decide⟩ ?_
      refine aw_icmp_le (tgt := 92) dX10_post_79 (by decide) (fun hc => ?_) (fun hc => ?_)
      · have k := k.1 hc
        refine aw_bipush dX10_post_92 ⟨by decide, by decide⟩ (by decide) ?_
        refine aw_iconst dX10_post_94 ⟨by decide, by decide⟩ ?_
        refine aw_iload_n 1 dX10_post_95 rfl rfl ?_
        obtain ⟨o5, k⟩ := k
        refine aw_imul dX10_post_96 o5 ?_
        refine aw_aload_n 0 dX10_post_97 rfl rfl ?_
        refine aw_getR dX10_post_98 fl_X10_28 rfl o1 (x := (h v0 6)) rfl ?_
        refine aw_iload_n 1 dX10_post_101 rfl rfl ?_
        refine aw_iald dX10_post_102 o2 o3 o4 (x := (h (h v0 6) v1)) rfl ?_
        obtain ⟨o6, k⟩ := k
        refine aw_iadd dX10_post_103 o6 ?_
        obtain ⟨o7, k⟩ := k
        refine aw_imul dX10_post_104 o7 ?_
        refine aw_istore dX10_post_105 (by decide) ?_
        refine aw_aload_n 1 dX10_post_107 rfl rfl ?_
        refine aw_getR dX10_post_108 fl_X10_31 rfl o1 (x := (h v0 7)) rfl ?_
        refine aw_iload 0 dX10_post_111 rfl ?_
        refine aw_iconst dX10_post_113 ⟨by decide, by decide⟩ ?_
        obtain ⟨o8, k⟩ := k
        refine aw_iadd dX10_post_114 o8 ?_
        refine aw_aload_n 1 dX10_post_115 rfl rfl ?_
        refine aw_getR dX10_post_116 fl_X10_25 rfl o1 (x := (h v0 5)) rfl ?_
        refine aw_iload_n 2 dX10_post_119 rfl rfl ?_
        obtain ⟨o9, k⟩ := k
        obtain ⟨o10, k⟩ := k
        refine aw_iald dX10_post_120 o9 o3 o10 (x := (h (h v0 5) v1)) rfl ?_
        obtain ⟨o11, k⟩ := k
        obtain ⟨o12, k⟩ := k
        obtain ⟨o13, k⟩ := k
        refine aw_iast dX10_post_121 o11 o12 o13 ?_
        refine aw_hp (fun h1 e14 => ?_)
        have k := k h1 e14
        refine aw_aload_n 1 dX10_post_122 rfl rfl ?_
        have q15 := sh_w e14 o12 o1
        refine aw_getR dX10_post_123 fl_X10_31 rfl q15 (x := (h v0 7)) (rd_a e14 v0 7 (ne_sh o11 o1 (by decide))) ?_
        refine aw_iload 0 dX10_post_126 rfl ?_
        refine aw_iconst dX10_post_128 ⟨by decide, by decide⟩ ?_
        obtain ⟨o16, k⟩ := k
        refine aw_iadd dX10_post_129 o16 ?_
        refine aw_iload_n 3 dX10_post_130 rfl rfl ?_
        obtain ⟨o17, k⟩ := k
        obtain ⟨o18, k⟩ := k
        have q19 := sh_w e14 o12 o11
        refine aw_iast dX10_post_131 q19 o17 (lt_l (ln_w e14 (h v0 7) o12) o18) ?_
        refine aw_hp (fun h2 e20 => ?_)
        have k := k h2 e20
        refine aw_aload_n 1 dX10_post_132 rfl rfl ?_
        have q21 := sh_w e20 o17 q15
        refine aw_getR dX10_post_133 fl_X10_31 rfl q21 (x := (h v0 7)) ((rd_a e20 v0 7 (ne_sh q19 q15 (by decide))).trans (rd_a e14 v0 7 (ne_sh o11 o1 (by decide)))) ?_
        refine aw_iload 0 dX10_post_136 rfl ?_
        refine aw_iconst dX10_post_138 ⟨by decide, by decide⟩ ?_
        obtain ⟨o22, k⟩ := k
        refine aw_iadd dX10_post_139 o22 ?_
        refine aw_aload_n 1 dX10_post_140 rfl rfl ?_
        refine aw_getR dX10_post_141 fl_X10_59 rfl q21 (x := (h v0 16)) ((rd_a e20 v0 16 (ne_sh q19 q15 (by decide))).trans (rd_a e14 v0 16 (ne_sh o11 o1 (by decide)))) ?_
        refine aw_iload_n 2 dX10_post_144 rfl rfl ?_
        obtain ⟨o23, k⟩ := k
        obtain ⟨o24, k⟩ := k
        have q25 := sh_w e14 o12 o23
        have q26 := sh_w e20 o17 q25
        refine aw_iald dX10_post_145 q26 o3 (lt_l ((ln_w e20 (h v0 16) o17).trans (ln_w e14 (h v0 16) o12)) o24) (x := (h2 (h v0 16) v1)) rfl ?_
        obtain ⟨o27, k⟩ := k
        obtain ⟨o28, k⟩ := k
        have q29 := sh_w e20 o17 q19
        refine aw_iast dX10_post_146 q29 o27 (lt_l ((ln_w e20 (h v0 7) o17).trans (ln_w e14 (h v0 7) o12)) o28) ?_
        refine aw_hp (fun h3 e30 => ?_)
        have k := k h3 e30
        refine aw_aload_n 1 dX10_post_147 rfl rfl ?_
        have q31 := sh_w e30 o27 q21
        refine aw_getR dX10_post_148 fl_X10_31 rfl q31 (x := (h v0 7)) ((rd_a e30 v0 7 (ne_sh q29 q21 (by decide))).trans ((rd_a e20 v0 7 (ne_sh q19 q15 (by decide))).trans (rd_a e14 v0 7 (ne_sh o11 o1 (by decide))))) ?_
        refine aw_iload 0 dX10_post_151 rfl ?_
        refine aw_iconst dX10_post_153 ⟨by decide, by decide⟩ ?_
        obtain ⟨o32, k⟩ := k
        refine aw_iadd dX10_post_154 o32 ?_
        refine aw_aload_n 1 dX10_post_155 rfl rfl ?_
        refine aw_getR dX10_post_156 fl_X10_62 rfl q31 (x := (h v0 17)) ((rd_a e30 v0 17 (ne_sh q29 q21 (by decide))).trans ((rd_a e20 v0 17 (ne_sh q19 q15 (by decide))).trans (rd_a e14 v0 17 (ne_sh o11 o1 (by decide))))) ?_
        refine aw_iload_n 2 dX10_post_159 rfl rfl ?_
        obtain ⟨o33, k⟩ := k
        obtain ⟨o34, k⟩ := k
        have q35 := sh_w e14 o12 o33
        have q36 := sh_w e20 o17 q35
        have q37 := sh_w e30 o27 q36
        refine aw_iald dX10_post_160 q37 o3 (lt_l ((ln_w e30 (h v0 17) o27).trans ((ln_w e20 (h v0 17) o17).trans (ln_w e14 (h v0 17) o12))) o34) (x := (h3 (h v0 17) v1)) rfl ?_
        obtain ⟨o38, k⟩ := k
        obtain ⟨o39, k⟩ := k
        have q40 := sh_w e30 o27 q29
        refine aw_iast dX10_post_161 q40 o38 (lt_l ((ln_w e30 (h v0 7) o27).trans ((ln_w e20 (h v0 7) o17).trans (ln_w e14 (h v0 7) o12))) o39) ?_
        refine aw_hp (fun h4 e41 => ?_)
        have k := k h4 e41
        refine aw_aload_n 1 dX10_post_162 rfl rfl ?_
        have q42 := sh_w e41 o38 q31
        refine aw_getR dX10_post_163 fl_X10_31 rfl q42 (x := (h v0 7)) ((rd_a e41 v0 7 (ne_sh q40 q31 (by decide))).trans ((rd_a e30 v0 7 (ne_sh q29 q21 (by decide))).trans ((rd_a e20 v0 7 (ne_sh q19 q15 (by decide))).trans (rd_a e14 v0 7 (ne_sh o11 o1 (by decide)))))) ?_
        refine aw_iload 0 dX10_post_166 rfl ?_
        refine aw_iconst dX10_post_168 ⟨by decide, by decide⟩ ?_
        obtain ⟨o43, k⟩ := k
        refine aw_iadd dX10_post_169 o43 ?_
        refine aw_iload_n 4 dX10_post_170 rfl rfl ?_
        obtain ⟨o44, k⟩ := k
        obtain ⟨o45, k⟩ := k
        have q46 := sh_w e41 o38 q40
        refine aw_iast dX10_post_171 q46 o44 (lt_l ((ln_w e41 (h v0 7) o38).trans ((ln_w e30 (h v0 7) o27).trans ((ln_w e20 (h v0 7) o17).trans (ln_w e14 (h v0 7) o12)))) o45) ?_
        refine aw_hp (fun h5 e47 => ?_)
        have k := k h5 e47
        refine aw_aload_n 1 dX10_post_172 rfl rfl ?_
        have q48 := sh_w e47 o44 q42
        refine aw_getR dX10_post_173 fl_X10_31 rfl q48 (x := (h v0 7)) ((rd_a e47 v0 7 (ne_sh q46 q42 (by decide))).trans ((rd_a e41 v0 7 (ne_sh q40 q31 (by decide))).trans ((rd_a e30 v0 7 (ne_sh q29 q21 (by decide))).trans ((rd_a e20 v0 7 (ne_sh q19 q15 (by decide))).trans (rd_a e14 v0 7 (ne_sh o11 o1 (by decide))))))) ?_
        refine aw_iload 0 dX10_post_176 rfl ?_
        refine aw_iconst dX10_post_178 ⟨by decide, by decide⟩ ?_
        obtain ⟨o49, k⟩ := k
        refine aw_iadd dX10_post_179 o49 ?_
        refine aw_iload 5 dX10_post_180 rfl ?_
        obtain ⟨o50, k⟩ := k
        obtain ⟨o51, k⟩ := k
        have q52 := sh_w e47 o44 q46
        refine aw_iast dX10_post_182 q52 o50 (lt_l ((ln_w e47 (h v0 7) o44).trans ((ln_w e41 (h v0 7) o38).trans ((ln_w e30 (h v0 7) o27).trans ((ln_w e20 (h v0 7) o17).trans (ln_w e14 (h v0 7) o12))))) o51) ?_
        refine aw_hp (fun h6 e53 => ?_)
        have k := k h6 e53
        refine aw_aload_n 1 dX10_post_183 rfl rfl ?_
        have q54 := sh_w e53 o50 q48
        refine aw_getR dX10_post_184 fl_X10_31 rfl q54 (x := (h v0 7)) ((rd_a e53 v0 7 (ne_sh q52 q48 (by decide))).trans ((rd_a e47 v0 7 (ne_sh q46 q42 (by decide))).trans ((rd_a e41 v0 7 (ne_sh q40 q31 (by decide))).trans ((rd_a e30 v0 7 (ne_sh q29 q21 (by decide))).trans ((rd_a e20 v0 7 (ne_sh q19 q15 (by decide))).trans (rd_a e14 v0 7 (ne_sh o11 o1 (by decide)))))))) ?_
        refine aw_iload 0 dX10_post_187 rfl ?_
        refine aw_bipush dX10_post_189 ⟨by decide, by decide⟩ (by decide) ?_
        obtain ⟨o55, k⟩ := k
        refine aw_iadd dX10_post_191 o55 ?_
        refine aw_iload 6 dX10_post_192 rfl ?_
        obtain ⟨o56, k⟩ := k
        obtain ⟨o57, k⟩ := k
        have q58 := sh_w e53 o50 q52
        refine aw_iast dX10_post_194 q58 o56 (lt_l ((ln_w e53 (h v0 7) o50).trans ((ln_w e47 (h v0 7) o44).trans ((ln_w e41 (h v0 7) o38).trans ((ln_w e30 (h v0 7) o27).trans ((ln_w e20 (h v0 7) o17).trans (ln_w e14 (h v0 7) o12)))))) o57) ?_
        refine aw_hp (fun h7 e59 => ?_)
        have k := k h7 e59
        refine aw_aload_n 1 dX10_post_195 rfl rfl ?_
        have q60 := sh_w e59 o56 q54
        refine aw_getR dX10_post_196 fl_X10_28 rfl q60 (x := (h v0 6)) ((rd_a e59 v0 6 (ne_sh q58 q54 (by decide))).trans ((rd_a e53 v0 6 (ne_sh q52 q48 (by decide))).trans ((rd_a e47 v0 6 (ne_sh q46 q42 (by decide))).trans ((rd_a e41 v0 6 (ne_sh q40 q31 (by decide))).trans ((rd_a e30 v0 6 (ne_sh q29 q21 (by decide))).trans ((rd_a e20 v0 6 (ne_sh q19 q15 (by decide))).trans (rd_a e14 v0 6 (ne_sh o11 o1 (by decide))))))))) ?_
        refine aw_iload_n 2 dX10_post_199 rfl rfl ?_
        refine aw_dup2 dX10_post_200 rfl rfl ?_
        have q61 := sh_w e14 o12 o2
        have q62 := sh_w e20 o17 q61
        have q63 := sh_w e30 o27 q62
        have q64 := sh_w e41 o38 q63
        have q65 := sh_w e47 o44 q64
        have q66 := sh_w e53 o50 q65
        have q67 := sh_w e59 o56 q66
        refine aw_iald dX10_post_201 q67 o3 (lt_l ((ln_w e59 (h v0 6) o56).trans ((ln_w e53 (h v0 6) o50).trans ((ln_w e47 (h v0 6) o44).trans ((ln_w e41 (h v0 6) o38).trans ((ln_w e30 (h v0 6) o27).trans ((ln_w e20 (h v0 6) o17).trans (ln_w e14 (h v0 6) o12))))))) o4) (x := (h7 (h v0 6) v1)) rfl ?_
        refine aw_iconst dX10_post_202 ⟨by decide, by decide⟩ ?_
        obtain ⟨o68, k⟩ := k
        refine aw_iadd dX10_post_203 o68 ?_
        refine aw_iast dX10_post_204 q67 o3 (lt_l ((ln_w e59 (h v0 6) o56).trans ((ln_w e53 (h v0 6) o50).trans ((ln_w e47 (h v0 6) o44).trans ((ln_w e41 (h v0 6) o38).trans ((ln_w e30 (h v0 6) o27).trans ((ln_w e20 (h v0 6) o17).trans (ln_w e14 (h v0 6) o12))))))) o4) ?_
        refine aw_hp (fun h8 e69 => ?_)
        have k := k h8 e69
        refine aw_aload_n 1 dX10_post_205 rfl rfl ?_
        have q70 := sh_w e69 o3 q60
        refine aw_getR dX10_post_206 fl_X10_25 rfl q70 (x := (h v0 5)) ((rd_a e69 v0 5 (ne_sh q67 q60 (by decide))).trans ((rd_a e59 v0 5 (ne_sh q58 q54 (by decide))).trans ((rd_a e53 v0 5 (ne_sh q52 q48 (by decide))).trans ((rd_a e47 v0 5 (ne_sh q46 q42 (by decide))).trans ((rd_a e41 v0 5 (ne_sh q40 q31 (by decide))).trans ((rd_a e30 v0 5 (ne_sh q29 q21 (by decide))).trans ((rd_a e20 v0 5 (ne_sh q19 q15 (by decide))).trans (rd_a e14 v0 5 (ne_sh o11 o1 (by decide)))))))))) ?_
        refine aw_iload_n 2 dX10_post_209 rfl rfl ?_
        refine aw_dup2 dX10_post_210 rfl rfl ?_
        have q71 := sh_w e14 o12 o9
        have q72 := sh_w e20 o17 q71
        have q73 := sh_w e30 o27 q72
        have q74 := sh_w e41 o38 q73
        have q75 := sh_w e47 o44 q74
        have q76 := sh_w e53 o50 q75
        have q77 := sh_w e59 o56 q76
        have q78 := sh_w e69 o3 q77
        refine aw_iald dX10_post_211 q78 o3 (lt_l ((ln_w e69 (h v0 5) o3).trans ((ln_w e59 (h v0 5) o56).trans ((ln_w e53 (h v0 5) o50).trans ((ln_w e47 (h v0 5) o44).trans ((ln_w e41 (h v0 5) o38).trans ((ln_w e30 (h v0 5) o27).trans ((ln_w e20 (h v0 5) o17).trans (ln_w e14 (h v0 5) o12)))))))) o10) (x := (h8 (h v0 5) v1)) rfl ?_
        refine aw_iconst dX10_post_212 ⟨by decide, by decide⟩ ?_
        obtain ⟨o79, k⟩ := k
        refine aw_iadd dX10_post_213 o79 ?_
        refine aw_iast dX10_post_214 q78 o3 (lt_l ((ln_w e69 (h v0 5) o3).trans ((ln_w e59 (h v0 5) o56).trans ((ln_w e53 (h v0 5) o50).trans ((ln_w e47 (h v0 5) o44).trans ((ln_w e41 (h v0 5) o38).trans ((ln_w e30 (h v0 5) o27).trans ((ln_w e20 (h v0 5) o17).trans (ln_w e14 (h v0 5) o12)))))))) o10) ?_
        refine aw_hp (fun h9 e80 => ?_)
        have k := k h9 e80
        refine aw_aload_n 1 dX10_post_215 rfl rfl ?_
        refine aw_iload_n 2 dX10_post_216 rfl rfl ?_
        refine aw_aload_n 1 dX10_post_217 rfl rfl ?_
        have q81 := sh_w e80 o3 q70
        refine aw_getR dX10_post_218 fl_X10_28 rfl q81 (x := (h v0 6)) ((rd_a e80 v0 6 (ne_sh q78 q70 (by decide))).trans ((rd_a e69 v0 6 (ne_sh q67 q60 (by decide))).trans ((rd_a e59 v0 6 (ne_sh q58 q54 (by decide))).trans ((rd_a e53 v0 6 (ne_sh q52 q48 (by decide))).trans ((rd_a e47 v0 6 (ne_sh q46 q42 (by decide))).trans ((rd_a e41 v0 6 (ne_sh q40 q31 (by decide))).trans ((rd_a e30 v0 6 (ne_sh q29 q21 (by decide))).trans ((rd_a e20 v0 6 (ne_sh q19 q15 (by decide))).trans (rd_a e14 v0 6 (ne_sh o11 o1 (by decide))))))))))) ?_
        refine aw_iload_n 2 dX10_post_221 rfl rfl ?_
        have q82 := sh_w e69 o3 q67
        have q83 := sh_w e80 o3 q82
        refine aw_iald dX10_post_222 q83 o3 (lt_l ((ln_w e80 (h v0 6) o3).trans ((ln_w e69 (h v0 6) o3).trans ((ln_w e59 (h v0 6) o56).trans ((ln_w e53 (h v0 6) o50).trans ((ln_w e47 (h v0 6) o44).trans ((ln_w e41 (h v0 6) o38).trans ((ln_w e30 (h v0 6) o27).trans ((ln_w e20 (h v0 6) o17).trans (ln_w e14 (h v0 6) o12))))))))) o4) (x := (h9 (h v0 6) v1)) rfl ?_
        refine aw_iconst dX10_post_223 ⟨by decide, by decide⟩ ?_
        obtain ⟨o84, k⟩ := k
        refine aw_isub dX10_post_224 o84 ?_
        refine aw_callV (M' := mm_X10_sendsWork) 10 [vI v1, vI ((h9 (h v0 6) v1) - 1)] [] lk_X10_251 ⟨_, rfl, rfl⟩ dX10_post_225 rfl (Nat.le_of_ble_eq_true rfl) ⟨by decide, by decide, Nat.zero_le _, Nat.zero_le _⟩ q81 ?_
        exact k.mono (fun _ _ z => aw_sub [1, 2] rfl z)
      · have k := k.2 hc
        refine aw_iload 6 dX10_post_82 rfl ?_
        refine aw_iconst dX10_post_84 ⟨by decide, by decide⟩ ?_
        refine aw_icmp_ne (tgt := 92) dX10_post_85 (by decide) (fun hc => ?_) (fun hc => ?_)
        · have k := k.1 hc
          refine aw_bipush dX10_post_92 ⟨by decide, by decide⟩ (by decide) ?_
          refine aw_iconst dX10_post_94 ⟨by decide, by decide⟩ ?_
          refine aw_iload_n 1 dX10_post_95 rfl rfl ?_
          obtain ⟨o85, k⟩ := k
          refine aw_imul dX10_post_96 o85 ?_
          refine aw_aload_n 0 dX10_post_97 rfl rfl ?_
          refine aw_getR dX10_post_98 fl_X10_28 rfl o1 (x := (h v0 6)) rfl ?_
          refine aw_iload_n 1 dX10_post_101 rfl rfl ?_
          refine aw_iald dX10_post_102 o2 o3 o4 (x := (h (h v0 6) v1)) rfl ?_
          obtain ⟨o86, k⟩ := k
          refine aw_iadd dX10_post_103 o86 ?_
          obtain ⟨o87, k⟩ := k
          refine aw_imul dX10_post_104 o87 ?_
          refine aw_istore dX10_post_105 (by decide) ?_
          refine aw_aload_n 1 dX10_post_107 rfl rfl ?_
          refine aw_getR dX10_post_108 fl_X10_31 rfl o1 (x := (h v0 7)) rfl ?_
          refine aw_iload 0 dX10_post_111 rfl ?_
          refine aw_iconst dX10_post_113 ⟨by decide, by decide⟩ ?_
          obtain ⟨o88, k⟩ := k
          refine aw_iadd dX10_post_114 o88 ?_
          refine aw_aload_n 1 dX10_post_115 rfl rfl ?_
          refine aw_getR dX10_post_116 fl_X10_25 rfl o1 (x := (h v0 5)) rfl ?_
          refine aw_iload_n 2 dX10_post_119 rfl rfl ?_
          obtain ⟨o89, k⟩ := k
          obtain ⟨o90, k⟩ := k
          refine aw_iald dX10_post_120 o89 o3 o90 (x := (h (h v0 5) v1)) rfl ?_
          obtain ⟨o91, k⟩ := k
          obtain ⟨o92, k⟩ := k
          obtain ⟨o93, k⟩ := k
          refine aw_iast dX10_post_121 o91 o92 o93 ?_
          refine aw_hp (fun h1 e94 => ?_)
          have k := k h1 e94
          refine aw_aload_n 1 dX10_post_122 rfl rfl ?_
          have q95 := sh_w e94 o92 o1
          refine aw_getR dX10_post_123 fl_X10_31 rfl q95 (x := (h v0 7)) (rd_a e94 v0 7 (ne_sh o91 o1 (by decide))) ?_
          refine aw_iload 0 dX10_post_126 rfl ?_
          refine aw_iconst dX10_post_128 ⟨by decide, by decide⟩ ?_
          obtain ⟨o96, k⟩ := k
          refine aw_iadd dX10_post_129 o96 ?_
          refine aw_iload_n 3 dX10_post_130 rfl rfl ?_
          obtain ⟨o97, k⟩ := k
          obtain ⟨o98, k⟩ := k
          have q99 := sh_w e94 o92 o91
          refine aw_iast dX10_post_131 q99 o97 (lt_l (ln_w e94 (h v0 7) o92) o98) ?_
          refine aw_hp (fun h2 e100 => ?_)
          have k := k h2 e100
          refine aw_aload_n 1 dX10_post_132 rfl rfl ?_
          have q101 := sh_w e100 o97 q95
          refine aw_getR dX10_post_133 fl_X10_31 rfl q101 (x := (h v0 7)) ((rd_a e100 v0 7 (ne_sh q99 q95 (by decide))).trans (rd_a e94 v0 7 (ne_sh o91 o1 (by decide)))) ?_
          refine aw_iload 0 dX10_post_136 rfl ?_
          refine aw_iconst dX10_post_138 ⟨by decide, by decide⟩ ?_
          obtain ⟨o102, k⟩ := k
          refine aw_iadd dX10_post_139 o102 ?_
          refine aw_aload_n 1 dX10_post_140 rfl rfl ?_
          refine aw_getR dX10_post_141 fl_X10_59 rfl q101 (x := (h v0 16)) ((rd_a e100 v0 16 (ne_sh q99 q95 (by decide))).trans (rd_a e94 v0 16 (ne_sh o91 o1 (by decide)))) ?_
          refine aw_iload_n 2 dX10_post_144 rfl rfl ?_
          obtain ⟨o103, k⟩ := k
          obtain ⟨o104, k⟩ := k
          have q105 := sh_w e94 o92 o103
          have q106 := sh_w e100 o97 q105
          refine aw_iald dX10_post_145 q106 o3 (lt_l ((ln_w e100 (h v0 16) o97).trans (ln_w e94 (h v0 16) o92)) o104) (x := (h2 (h v0 16) v1)) rfl ?_
          obtain ⟨o107, k⟩ := k
          obtain ⟨o108, k⟩ := k
          have q109 := sh_w e100 o97 q99
          refine aw_iast dX10_post_146 q109 o107 (lt_l ((ln_w e100 (h v0 7) o97).trans (ln_w e94 (h v0 7) o92)) o108) ?_
          refine aw_hp (fun h3 e110 => ?_)
          have k := k h3 e110
          refine aw_aload_n 1 dX10_post_147 rfl rfl ?_
          have q111 := sh_w e110 o107 q101
          refine aw_getR dX10_post_148 fl_X10_31 rfl q111 (x := (h v0 7)) ((rd_a e110 v0 7 (ne_sh q109 q101 (by decide))).trans ((rd_a e100 v0 7 (ne_sh q99 q95 (by decide))).trans (rd_a e94 v0 7 (ne_sh o91 o1 (by decide))))) ?_
          refine aw_iload 0 dX10_post_151 rfl ?_
          refine aw_iconst dX10_post_153 ⟨by decide, by decide⟩ ?_
          obtain ⟨o112, k⟩ := k
          refine aw_iadd dX10_post_154 o112 ?_
          refine aw_aload_n 1 dX10_post_155 rfl rfl ?_
          refine aw_getR dX10_post_156 fl_X10_62 rfl q111 (x := (h v0 17)) ((rd_a e110 v0 17 (ne_sh q109 q101 (by decide))).trans ((rd_a e100 v0 17 (ne_sh q99 q95 (by decide))).trans (rd_a e94 v0 17 (ne_sh o91 o1 (by decide))))) ?_
          refine aw_iload_n 2 dX10_post_159 rfl rfl ?_
          obtain ⟨o113, k⟩ := k
          obtain ⟨o114, k⟩ := k
          have q115 := sh_w e94 o92 o113
          have q116 := sh_w e100 o97 q115
          have q117 := sh_w e110 o107 q116
          refine aw_iald dX10_post_160 q117 o3 (lt_l ((ln_w e110 (h v0 17) o107).trans ((ln_w e100 (h v0 17) o97).trans (ln_w e94 (h v0 17) o92))) o114) (x := (h3 (h v0 17) v1)) rfl ?_
          obtain ⟨o118, k⟩ := k
          obtain ⟨o119, k⟩ := k
          have q120 := sh_w e110 o107 q109
          refine aw_iast dX10_post_161 q120 o118 (lt_l ((ln_w e110 (h v0 7) o107).trans ((ln_w e100 (h v0 7) o97).trans (ln_w e94 (h v0 7) o92))) o119) ?_
          refine aw_hp (fun h4 e121 => ?_)
          have k := k h4 e121
          refine aw_aload_n 1 dX10_post_162 rfl rfl ?_
          have q122 := sh_w e121 o118 q111
          refine aw_getR dX10_post_163 fl_X10_31 rfl q122 (x := (h v0 7)) ((rd_a e121 v0 7 (ne_sh q120 q111 (by decide))).trans ((rd_a e110 v0 7 (ne_sh q109 q101 (by decide))).trans ((rd_a e100 v0 7 (ne_sh q99 q95 (by decide))).trans (rd_a e94 v0 7 (ne_sh o91 o1 (by decide)))))) ?_
          refine aw_iload 0 dX10_post_166 rfl ?_
          refine aw_iconst dX10_post_168 ⟨by decide, by decide⟩ ?_
          obtain ⟨o123, k⟩ := k
          refine aw_iadd dX10_post_169 o123 ?_
          refine aw_iload_n 4 dX10_post_170 rfl rfl ?_
          obtain ⟨o124, k⟩ := k
          obtain ⟨o125, k⟩ := k
          have q126 := sh_w e121 o118 q120
          refine aw_iast dX10_post_171 q126 o124 (lt_l ((ln_w e121 (h v0 7) o118).trans ((ln_w e110 (h v0 7) o107).trans ((ln_w e100 (h v0 7) o97).trans (ln_w e94 (h v0 7) o92)))) o125) ?_
          refine aw_hp (fun h5 e127 => ?_)
          have k := k h5 e127
          refine aw_aload_n 1 dX10_post_172 rfl rfl ?_
          have q128 := sh_w e127 o124 q122
          refine aw_getR dX10_post_173 fl_X10_31 rfl q128 (x := (h v0 7)) ((rd_a e127 v0 7 (ne_sh q126 q122 (by decide))).trans ((rd_a e121 v0 7 (ne_sh q120 q111 (by decide))).trans ((rd_a e110 v0 7 (ne_sh q109 q101 (by decide))).trans ((rd_a e100 v0 7 (ne_sh q99 q95 (by decide))).trans (rd_a e94 v0 7 (ne_sh o91 o1 (by decide))))))) ?_
          refine aw_iload 0 dX10_post_176 rfl ?_
          refine aw_iconst dX10_post_178 ⟨by decide, by decide⟩ ?_
          obtain ⟨o129, k⟩ := k
          refine aw_iadd dX10_post_179 o129 ?_
          refine aw_iload 5 dX10_post_180 rfl ?_
          obtain ⟨o130, k⟩ := k
          obtain ⟨o131, k⟩ := k
          have q132 := sh_w e127 o124 q126
          refine aw_iast dX10_post_182 q132 o130 (lt_l ((ln_w e127 (h v0 7) o124).trans ((ln_w e121 (h v0 7) o118).trans ((ln_w e110 (h v0 7) o107).trans ((ln_w e100 (h v0 7) o97).trans (ln_w e94 (h v0 7) o92))))) o131) ?_
          refine aw_hp (fun h6 e133 => ?_)
          have k := k h6 e133
          refine aw_aload_n 1 dX10_post_183 rfl rfl ?_
          have q134 := sh_w e133 o130 q128
          refine aw_getR dX10_post_184 fl_X10_31 rfl q134 (x := (h v0 7)) ((rd_a e133 v0 7 (ne_sh q132 q128 (by decide))).trans ((rd_a e127 v0 7 (ne_sh q126 q122 (by decide))).trans ((rd_a e121 v0 7 (ne_sh q120 q111 (by decide))).trans ((rd_a e110 v0 7 (ne_sh q109 q101 (by decide))).trans ((rd_a e100 v0 7 (ne_sh q99 q95 (by decide))).trans (rd_a e94 v0 7 (ne_sh o91 o1 (by decide)))))))) ?_
          refine aw_iload 0 dX10_post_187 rfl ?_
          refine aw_bipush dX10_post_189 ⟨by decide, by decide⟩ (by decide) ?_
          obtain ⟨o135, k⟩ := k
          refine aw_iadd dX10_post_191 o135 ?_
          refine aw_iload 6 dX10_post_192 rfl ?_
          obtain ⟨o136, k⟩ := k
          obtain ⟨o137, k⟩ := k
          have q138 := sh_w e133 o130 q132
          refine aw_iast dX10_post_194 q138 o136 (lt_l ((ln_w e133 (h v0 7) o130).trans ((ln_w e127 (h v0 7) o124).trans ((ln_w e121 (h v0 7) o118).trans ((ln_w e110 (h v0 7) o107).trans ((ln_w e100 (h v0 7) o97).trans (ln_w e94 (h v0 7) o92)))))) o137) ?_
          refine aw_hp (fun h7 e139 => ?_)
          have k := k h7 e139
          refine aw_aload_n 1 dX10_post_195 rfl rfl ?_
          have q140 := sh_w e139 o136 q134
          refine aw_getR dX10_post_196 fl_X10_28 rfl q140 (x := (h v0 6)) ((rd_a e139 v0 6 (ne_sh q138 q134 (by decide))).trans ((rd_a e133 v0 6 (ne_sh q132 q128 (by decide))).trans ((rd_a e127 v0 6 (ne_sh q126 q122 (by decide))).trans ((rd_a e121 v0 6 (ne_sh q120 q111 (by decide))).trans ((rd_a e110 v0 6 (ne_sh q109 q101 (by decide))).trans ((rd_a e100 v0 6 (ne_sh q99 q95 (by decide))).trans (rd_a e94 v0 6 (ne_sh o91 o1 (by decide))))))))) ?_
          refine aw_iload_n 2 dX10_post_199 rfl rfl ?_
          refine aw_dup2 dX10_post_200 rfl rfl ?_
          have q141 := sh_w e94 o92 o2
          have q142 := sh_w e100 o97 q141
          have q143 := sh_w e110 o107 q142
          have q144 := sh_w e121 o118 q143
          have q145 := sh_w e127 o124 q144
          have q146 := sh_w e133 o130 q145
          have q147 := sh_w e139 o136 q146
          refine aw_iald dX10_post_201 q147 o3 (lt_l ((ln_w e139 (h v0 6) o136).trans ((ln_w e133 (h v0 6) o130).trans ((ln_w e127 (h v0 6) o124).trans ((ln_w e121 (h v0 6) o118).trans ((ln_w e110 (h v0 6) o107).trans ((ln_w e100 (h v0 6) o97).trans (ln_w e94 (h v0 6) o92))))))) o4) (x := (h7 (h v0 6) v1)) rfl ?_
          refine aw_iconst dX10_post_202 ⟨by decide, by decide⟩ ?_
          obtain ⟨o148, k⟩ := k
          refine aw_iadd dX10_post_203 o148 ?_
          refine aw_iast dX10_post_204 q147 o3 (lt_l ((ln_w e139 (h v0 6) o136).trans ((ln_w e133 (h v0 6) o130).trans ((ln_w e127 (h v0 6) o124).trans ((ln_w e121 (h v0 6) o118).trans ((ln_w e110 (h v0 6) o107).trans ((ln_w e100 (h v0 6) o97).trans (ln_w e94 (h v0 6) o92))))))) o4) ?_
          refine aw_hp (fun h8 e149 => ?_)
          have k := k h8 e149
          refine aw_aload_n 1 dX10_post_205 rfl rfl ?_
          have q150 := sh_w e149 o3 q140
          refine aw_getR dX10_post_206 fl_X10_25 rfl q150 (x := (h v0 5)) ((rd_a e149 v0 5 (ne_sh q147 q140 (by decide))).trans ((rd_a e139 v0 5 (ne_sh q138 q134 (by decide))).trans ((rd_a e133 v0 5 (ne_sh q132 q128 (by decide))).trans ((rd_a e127 v0 5 (ne_sh q126 q122 (by decide))).trans ((rd_a e121 v0 5 (ne_sh q120 q111 (by decide))).trans ((rd_a e110 v0 5 (ne_sh q109 q101 (by decide))).trans ((rd_a e100 v0 5 (ne_sh q99 q95 (by decide))).trans (rd_a e94 v0 5 (ne_sh o91 o1 (by decide)))))))))) ?_
          refine aw_iload_n 2 dX10_post_209 rfl rfl ?_
          refine aw_dup2 dX10_post_210 rfl rfl ?_
          have q151 := sh_w e94 o92 o89
          have q152 := sh_w e100 o97 q151
          have q153 := sh_w e110 o107 q152
          have q154 := sh_w e121 o118 q153
          have q155 := sh_w e127 o124 q154
          have q156 := sh_w e133 o130 q155
          have q157 := sh_w e139 o136 q156
          have q158 := sh_w e149 o3 q157
          refine aw_iald dX10_post_211 q158 o3 (lt_l ((ln_w e149 (h v0 5) o3).trans ((ln_w e139 (h v0 5) o136).trans ((ln_w e133 (h v0 5) o130).trans ((ln_w e127 (h v0 5) o124).trans ((ln_w e121 (h v0 5) o118).trans ((ln_w e110 (h v0 5) o107).trans ((ln_w e100 (h v0 5) o97).trans (ln_w e94 (h v0 5) o92)))))))) o90) (x := (h8 (h v0 5) v1)) rfl ?_
          refine aw_iconst dX10_post_212 ⟨by decide, by decide⟩ ?_
          obtain ⟨o159, k⟩ := k
          refine aw_iadd dX10_post_213 o159 ?_
          refine aw_iast dX10_post_214 q158 o3 (lt_l ((ln_w e149 (h v0 5) o3).trans ((ln_w e139 (h v0 5) o136).trans ((ln_w e133 (h v0 5) o130).trans ((ln_w e127 (h v0 5) o124).trans ((ln_w e121 (h v0 5) o118).trans ((ln_w e110 (h v0 5) o107).trans ((ln_w e100 (h v0 5) o97).trans (ln_w e94 (h v0 5) o92)))))))) o90) ?_
          refine aw_hp (fun h9 e160 => ?_)
          have k := k h9 e160
          refine aw_aload_n 1 dX10_post_215 rfl rfl ?_
          refine aw_iload_n 2 dX10_post_216 rfl rfl ?_
          refine aw_aload_n 1 dX10_post_217 rfl rfl ?_
          have q161 := sh_w e160 o3 q150
          refine aw_getR dX10_post_218 fl_X10_28 rfl q161 (x := (h v0 6)) ((rd_a e160 v0 6 (ne_sh q158 q150 (by decide))).trans ((rd_a e149 v0 6 (ne_sh q147 q140 (by decide))).trans ((rd_a e139 v0 6 (ne_sh q138 q134 (by decide))).trans ((rd_a e133 v0 6 (ne_sh q132 q128 (by decide))).trans ((rd_a e127 v0 6 (ne_sh q126 q122 (by decide))).trans ((rd_a e121 v0 6 (ne_sh q120 q111 (by decide))).trans ((rd_a e110 v0 6 (ne_sh q109 q101 (by decide))).trans ((rd_a e100 v0 6 (ne_sh q99 q95 (by decide))).trans (rd_a e94 v0 6 (ne_sh o91 o1 (by decide))))))))))) ?_
          refine aw_iload_n 2 dX10_post_221 rfl rfl ?_
          have q162 := sh_w e149 o3 q147
          have q163 := sh_w e160 o3 q162
          refine aw_iald dX10_post_222 q163 o3 (lt_l ((ln_w e160 (h v0 6) o3).trans ((ln_w e149 (h v0 6) o3).trans ((ln_w e139 (h v0 6) o136).trans ((ln_w e133 (h v0 6) o130).trans ((ln_w e127 (h v0 6) o124).trans ((ln_w e121 (h v0 6) o118).trans ((ln_w e110 (h v0 6) o107).trans ((ln_w e100 (h v0 6) o97).trans (ln_w e94 (h v0 6) o92))))))))) o4) (x := (h9 (h v0 6) v1)) rfl ?_
          refine aw_iconst dX10_post_223 ⟨by decide, by decide⟩ ?_
          obtain ⟨o164, k⟩ := k
          refine aw_isub dX10_post_224 o164 ?_
          refine aw_callV (M' := mm_X10_sendsWork) 10 [vI v1, vI ((h9 (h v0 6) v1) - 1)] [] lk_X10_251 ⟨_, rfl, rfl⟩ dX10_post_225 rfl (Nat.le_of_ble_eq_true rfl) ⟨by decide, by decide, Nat.zero_le _, Nat.zero_le _⟩ q161 ?_
          exact k.mono (fun _ _ z => aw_sub [1, 2] rfl z)
        · have k := k.2 hc
          refine aw_sipush dX10_post_88 ⟨by decide, by decide⟩ (by decide) ?_
          exact aw_iret dX10_post_91 rfl k
  · have k := k.2 hc
    refine aw_iload 6 dX10_post_31 rfl ?_
    refine aw_aload_n 0 dX10_post_33 rfl rfl ?_
    refine aw_getR dX10_post_34 fl_X10_31 rfl o1 (x := (h v0 7)) rfl ?_
    refine aw_bipush dX10_post_37 ⟨by decide, by decide⟩ (by decide) ?_
    refine aw_iconst dX10_post_39 ⟨by decide, by decide⟩ ?_
    refine aw_iload_n 1 dX10_post_40 rfl rfl ?_
    obtain ⟨o165, k⟩ := k
    refine aw_imul dX10_post_41 o165 ?_
    refine aw_iload 7 dX10_post_42 rfl ?_
    obtain ⟨o166, k⟩ := k
    refine aw_iadd dX10_post_44 o166 ?_
    obtain ⟨o167, k⟩ := k
    refine aw_imul dX10_post_45 o167 ?_
    refine aw_iconst dX10_post_46 ⟨by decide, by decide⟩ ?_
    obtain ⟨o168, k⟩ := k
    refine aw_iadd dX10_post_47 o168 ?_
    obtain ⟨o169, k⟩ := k
    obtain ⟨o170, k⟩ := k
    obtain ⟨o171, k⟩ := k
    refine aw_iald dX10_post_48 o169 o170 o171 (x := (h (h v0 7) ((7 * ((4 * v1) + v7)) + 1))) rfl ?_
    refine aw_iconst dX10_post_49 ⟨by decide, by decide⟩ ?_
    refine aw_icmp_le (tgt := 57) dX10_post_50 (by decide) (fun hc => ?_) (fun hc => ?_)
    · have k := k.1 hc
      refine aw_iconst dX10_post_57 ⟨by decide, by decide⟩ ?_
      obtain ⟨o172, k⟩ := k
      refine aw_iadd dX10_post_58 o172 ?_
      refine aw_istore dX10_post_59 (by decide) ?_
      obtain ⟨o173, k⟩ := k
      refine aw_iinc 7 dX10_post_61 rfl o173 (by decide) ?_
      refine aw_goto (tgt := 20) dX10_post_64 (by decide) ?_
      exact aw_sub [2, 3, 4, 5, 6, 7, 1, 0] rfl k
    · have k := k.2 hc
      refine aw_iconst dX10_post_53 ⟨by decide, by decide⟩ ?_
      refine aw_goto (tgt := 58) dX10_post_54 (by decide) ?_
      obtain ⟨o174, k⟩ := k
      refine aw_iadd dX10_post_58 o174 ?_
      refine aw_istore dX10_post_59 (by decide) ?_
      obtain ⟨o175, k⟩ := k
      refine aw_iinc 7 dX10_post_61 rfl o175 (by decide) ?_
      refine aw_goto (tgt := 20) dX10_post_64 (by decide) ?_
      exact aw_sub [2, 3, 4, 5, 6, 7, 1, 0] rfl k
set_option maxRecDepth 20000 in
theorem sg_X10_post_228 {G : GG} {b : Nat × Nat} {Q : Option VV → Hp → Prop} {v0 v1 : Int} {h : Hp} (k : (h v0 (-1) = 11) ∧ (h (h v0 5) (-1) = 20) ∧ (0 ≤ v1) ∧ (v1 < h (h v0 5) (-2)) ∧ (inI ((h (h v0 5) v1) - 1)) ∧ Q (some (vI ((h (h v0 5) v1) - 1))) h) : AW G mm_X10_post b 228 [(0, vR v0), (1, vI v1)] [] h Q := by
  refine aw_aload_n 0 dX10_post_228 rfl rfl ?_
  obtain ⟨o1, k⟩ := k
  refine aw_getR dX10_post_229 fl_X10_25 rfl o1 (x := (h v0 5)) rfl ?_
  refine aw_iload_n 1 dX10_post_232 rfl rfl ?_
  obtain ⟨o2, k⟩ := k
  obtain ⟨o3, k⟩ := k
  obtain ⟨o4, k⟩ := k
  refine aw_iald dX10_post_233 o2 o3 o4 (x := (h (h v0 5) v1)) rfl ?_
  refine aw_iconst dX10_post_234 ⟨by decide, by decide⟩ ?_
  obtain ⟨o5, k⟩ := k
  refine aw_isub dX10_post_235 o5 ?_
  exact aw_iret dX10_post_236 rfl k
set_option maxRecDepth 20000 in
theorem sg_X10_put_0 {G : GG} {b : Nat × Nat} {Q : Option VV → Hp → Prop} {v0 v1 v2 v3 : Int} {h : Hp} (k : ((¬ (0 ≤ v1 ∧ v1 ≤ 1)) → Q (some (vI (-1001))) h) ∧ ((0 ≤ v1 ∧ v1 ≤ 1) → ((0 ≤ v2 ∧ v2 ≤ 11) → ((0 ≤ v3 ∧ v3 ≤ 9999) → (h v0 (-1) = 11) ∧ (inI (12 * v1)) ∧ (inI ((12 * v1) + v2)) ∧ (h (h v0 0) (-1) = 20) ∧ (0 ≤ ((12 * v1) + v2)) ∧ (((12 * v1) + v2) < h (h v0 0) (-2)) ∧ ∀ h1, h1 = wr h (h v0 0) ((12 * v1) + v2) v3 → Q (some (vI (h (h v0 0) ((12 * v1) + v2)))) h1) ∧ ((¬ (0 ≤ v3 ∧ v3 ≤ 9999)) → Q (some (vI (-1002))) h)) ∧ ((¬ (0 ≤ v2 ∧ v2 ≤ 11)) → Q (some (vI (-1001))) h))) : AW G mm_X10_put b 0 [(0, vR v0), (1, vI v1), (2, vI v2), (3, vI v3)] [] h Q := by
  refine aw_iload_n 1 dX10_put_0 rfl rfl ?_
  refine aw_callS (M' := mm_X10_isHost) [vI v1] [] lk_X10_194 dX10_put_1 rfl (Nat.le_of_ble_eq_true rfl) ⟨by decide, by decide, Nat.zero_le _, Nat.zero_le _⟩ ?_
  refine pu_X10_isHost ?_
  refine aw_if_eq (tgt := 14) dX10_put_4 (by decide) (fun hc => ?_) (fun hc => ?_)
  · have k := k.1 (b2i_0.mp hc)
    refine aw_sipush dX10_put_14 ⟨by decide, by decide⟩ (by decide) ?_
    exact aw_iret dX10_put_17 rfl k
  · have k := k.2 (b2i_n.mp hc)
    refine aw_iload_n 2 dX10_put_7 rfl rfl ?_
    refine aw_callS (M' := mm_X10_isCell) [vI v2] [] lk_X10_197 dX10_put_8 rfl (Nat.le_of_ble_eq_true rfl) ⟨by decide, by decide, Nat.zero_le _, Nat.zero_le _⟩ ?_
    refine pu_X10_isCell ?_
    refine aw_if_ne (tgt := 18) dX10_put_11 (by decide) (fun hc => ?_) (fun hc => ?_)
    · have k := k.1 (b2i_n.mp hc)
      refine aw_iload_n 3 dX10_put_18 rfl rfl ?_
      refine aw_callS (M' := mm_X10_isNumber) [vI v3] [] lk_X10_200 dX10_put_19 rfl (Nat.le_of_ble_eq_true rfl) ⟨by decide, by decide, Nat.zero_le _, Nat.zero_le _⟩ ?_
      refine pu_X10_isNumber ?_
      refine aw_if_ne (tgt := 29) dX10_put_22 (by decide) (fun hc => ?_) (fun hc => ?_)
      · have k := k.1 (b2i_n.mp hc)
        refine aw_aload_n 0 dX10_put_29 rfl rfl ?_
        obtain ⟨o1, k⟩ := k
        refine aw_getR dX10_put_30 fl_X10_7 rfl o1 (x := (h v0 0)) rfl ?_
        refine aw_bipush dX10_put_33 ⟨by decide, by decide⟩ (by decide) ?_
        refine aw_iload_n 1 dX10_put_35 rfl rfl ?_
        obtain ⟨o2, k⟩ := k
        refine aw_imul dX10_put_36 o2 ?_
        refine aw_iload_n 2 dX10_put_37 rfl rfl ?_
        obtain ⟨o3, k⟩ := k
        refine aw_iadd dX10_put_38 o3 ?_
        obtain ⟨o4, k⟩ := k
        obtain ⟨o5, k⟩ := k
        obtain ⟨o6, k⟩ := k
        refine aw_iald dX10_put_39 o4 o5 o6 (x := (h (h v0 0) ((12 * v1) + v2))) rfl ?_
        refine aw_istore dX10_put_40 (by decide) ?_
        refine aw_aload_n 1 dX10_put_42 rfl rfl ?_
        refine aw_getR dX10_put_43 fl_X10_7 rfl o1 (x := (h v0 0)) rfl ?_
        refine aw_bipush dX10_put_46 ⟨by decide, by decide⟩ (by decide) ?_
        refine aw_iload_n 2 dX10_put_48 rfl rfl ?_
        refine aw_imul dX10_put_49 o2 ?_
        refine aw_iload_n 3 dX10_put_50 rfl rfl ?_
        refine aw_iadd dX10_put_51 o3 ?_
        refine aw_iload_n 4 dX10_put_52 rfl rfl ?_
        refine aw_iast dX10_put_53 o4 o5 o6 ?_
        refine aw_hp (fun h1 e7 => ?_)
        have k := k h1 e7
        refine aw_iload 0 dX10_put_54 rfl ?_
        exact aw_iret dX10_put_56 rfl k
      · have k := k.2 (b2i_0.mp hc)
        refine aw_sipush dX10_put_25 ⟨by decide, by decide⟩ (by decide) ?_
        exact aw_iret dX10_put_28 rfl k
    · have k := k.2 (b2i_0.mp hc)
      refine aw_sipush dX10_put_14 ⟨by decide, by decide⟩ (by decide) ?_
      exact aw_iret dX10_put_17 rfl k
theorem rn_X10_put {G : GG} {Q : Option VV → Hp → Prop} {v0 v1 v2 v3 : Int} {h : Hp} (k : ((¬ (0 ≤ v1 ∧ v1 ≤ 1)) → Q (some (vI (-1001))) h) ∧ ((0 ≤ v1 ∧ v1 ≤ 1) → ((0 ≤ v2 ∧ v2 ≤ 11) → ((0 ≤ v3 ∧ v3 ≤ 9999) → (h v0 (-1) = 11) ∧ (inI (12 * v1)) ∧ (inI ((12 * v1) + v2)) ∧ (h (h v0 0) (-1) = 20) ∧ (0 ≤ ((12 * v1) + v2)) ∧ (((12 * v1) + v2) < h (h v0 0) (-2)) ∧ ∀ h1, h1 = wr h (h v0 0) ((12 * v1) + v2) v3 → Q (some (vI (h (h v0 0) ((12 * v1) + v2)))) h1) ∧ ((¬ (0 ≤ v3 ∧ v3 ≤ 9999)) → Q (some (vI (-1002))) h)) ∧ ((¬ (0 ≤ v2 ∧ v2 ≤ 11)) → Q (some (vI (-1001))) h))) : Runs G mm_X10_put [vR v0, vI v1, vI v2, vI v3] h Q := Runs.of (by decide +kernel) (Nat.le_of_ble_eq_true rfl) (sg_X10_put_0 (b := (0, 0)) k)
set_option maxRecDepth 20000 in
theorem sg_X10_read_0 {G : GG} {b : Nat × Nat} {Q : Option VV → Hp → Prop} {v0 v1 v2 : Int} {h : Hp} (k : ((¬ (0 ≤ v1 ∧ v1 ≤ 3)) → Q (some (vI (-1001))) h) ∧ ((0 ≤ v1 ∧ v1 ≤ 3) → ((0 ≤ v2 ∧ v2 ≤ 11) → (h v0 (-1) = 11) ∧ Runs G mm_X10_post [vR v0, vI v1, vI 2, vI 0, vI 0, vI v2] h (fun r h' => AW G mm_X10_read b 29 [] (r.toList ++ []) h' Q)) ∧ ((¬ (0 ≤ v2 ∧ v2 ≤ 11)) → Q (some (vI (-1001))) h))) : AW G mm_X10_read b 0 [(0, vR v0), (1, vI v1), (2, vI v2)] [] h Q := by
  refine aw_iload_n 1 dX10_read_0 rfl rfl ?_
  refine aw_callS (M' := mm_X10_isEnd) [vI v1] [] lk_X10_220 dX10_read_1 rfl (Nat.le_of_ble_eq_true rfl) ⟨by decide, by decide, Nat.zero_le _, Nat.zero_le _⟩ ?_
  refine pu_X10_isEnd ?_
  refine aw_if_eq (tgt := 14) dX10_read_4 (by decide) (fun hc => ?_) (fun hc => ?_)
  · have k := k.1 (b2i_0.mp hc)
    refine aw_sipush dX10_read_14 ⟨by decide, by decide⟩ (by decide) ?_
    refine aw_goto (tgt := 29) dX10_read_17 (by decide) ?_
    exact aw_iret dX10_read_29 rfl k
  · have k := k.2 (b2i_n.mp hc)
    refine aw_iload_n 2 dX10_read_7 rfl rfl ?_
    refine aw_callS (M' := mm_X10_isCell) [vI v2] [] lk_X10_197 dX10_read_8 rfl (Nat.le_of_ble_eq_true rfl) ⟨by decide, by decide, Nat.zero_le _, Nat.zero_le _⟩ ?_
    refine pu_X10_isCell ?_
    refine aw_if_ne (tgt := 20) dX10_read_11 (by decide) (fun hc => ?_) (fun hc => ?_)
    · have k := k.1 (b2i_n.mp hc)
      refine aw_aload_n 0 dX10_read_20 rfl rfl ?_
      refine aw_iload_n 1 dX10_read_21 rfl rfl ?_
      refine aw_iconst dX10_read_22 ⟨by decide, by decide⟩ ?_
      refine aw_iconst dX10_read_23 ⟨by decide, by decide⟩ ?_
      refine aw_iconst dX10_read_24 ⟨by decide, by decide⟩ ?_
      refine aw_iload_n 2 dX10_read_25 rfl rfl ?_
      obtain ⟨o1, k⟩ := k
      refine aw_callV (M' := mm_X10_post) 10 [vI v1, vI 2, vI 0, vI 0, vI v2] [] lk_X10_282 ⟨_, rfl, rfl⟩ dX10_read_26 rfl (Nat.le_of_ble_eq_true rfl) ⟨by decide, by decide, Nat.zero_le _, Nat.zero_le _⟩ o1 ?_
      exact k.mono (fun _ _ z => aw_sub [] rfl z)
    · have k := k.2 (b2i_0.mp hc)
      refine aw_sipush dX10_read_14 ⟨by decide, by decide⟩ (by decide) ?_
      refine aw_goto (tgt := 29) dX10_read_17 (by decide) ?_
      exact aw_iret dX10_read_29 rfl k
theorem rn_X10_read {G : GG} {Q : Option VV → Hp → Prop} {v0 v1 v2 : Int} {h : Hp} (k : ((¬ (0 ≤ v1 ∧ v1 ≤ 3)) → Q (some (vI (-1001))) h) ∧ ((0 ≤ v1 ∧ v1 ≤ 3) → ((0 ≤ v2 ∧ v2 ≤ 11) → (h v0 (-1) = 11) ∧ Runs G mm_X10_post [vR v0, vI v1, vI 2, vI 0, vI 0, vI v2] h (fun r h' => AW G mm_X10_read (0, 0) 29 [] (r.toList ++ []) h' Q)) ∧ ((¬ (0 ≤ v2 ∧ v2 ≤ 11)) → Q (some (vI (-1001))) h))) : Runs G mm_X10_read [vR v0, vI v1, vI v2] h Q := Runs.of (by decide +kernel) (Nat.le_of_ble_eq_true rfl) (sg_X10_read_0 (b := (0, 0)) k)
set_option maxRecDepth 20000 in
theorem sg_X10_read_29 {G : GG} {b : Nat × Nat} {Q : Option VV → Hp → Prop} {s0 : Int} {h : Hp} (k : Q (some (vI s0)) h) : AW G mm_X10_read b 29 [] [vI s0] h Q := by
  exact aw_iret dX10_read_29 rfl k
set_option maxRecDepth 20000 in
theorem sg_X10_reads_0 {G : GG} {b : Nat × Nat} {Q : Option VV → Hp → Prop} {v0 v1 v2 v3 : Int} {h : Hp} (k : (h v0 (-1) = 11) ∧ (((h v0 32) = (h v0 31)) → Q (some (vI 0)) h) ∧ ((¬ ((h v0 32) = (h v0 31))) → (h (h v0 30) (-1) = 20) ∧ (0 ≤ (h v0 32)) ∧ ((h v0 32) < h (h v0 30) (-2)) ∧ ((¬ (48 ≤ (h (h v0 30) (h v0 32)) ∧ (h (h v0 30) (h v0 32)) ≤ 57)) → Q (some (vI 0)) h) ∧ ((48 ≤ (h (h v0 30) (h v0 32)) ∧ (h (h v0 30) (h v0 32)) ≤ 57) → (inI ((h v0 33) - (h v0 32))) ∧ ((((h v0 33) - (h v0 32)) ≤ 4) → AW G mm_X10_reads b 50 [(0, vR v0), (1, vI v1), (2, vI v2), (3, vI v3), (4, vI 0), (5, vI (h v0 32))] [] h Q) ∧ ((¬ (((h v0 33) - (h v0 32)) ≤ 4)) → Q (some (vI 0)) h)))) : AW G mm_X10_reads b 0 [(0, vR v0), (1, vI v1), (2, vI v2), (3, vI v3)] [] h Q := by
  refine aw_aload_n 0 dX10_reads_0 rfl rfl ?_
  obtain ⟨o1, k⟩ := k
  refine aw_getI dX10_reads_1 fl_X10_142 rfl o1 (x := (h v0 32)) rfl ?_
  refine aw_aload_n 0 dX10_reads_4 rfl rfl ?_
  refine aw_getI dX10_reads_5 fl_X10_128 rfl o1 (x := (h v0 31)) rfl ?_
  refine aw_icmp_eq (tgt := 39) dX10_reads_8 (by decide) (fun hc => ?_) (fun hc => ?_)
  · have k := k.1 hc
    refine aw_iconst dX10_reads_39 ⟨by decide, by decide⟩ ?_
    exact aw_zret dX10_reads_40 rfl (by decide) k
  · have k := k.2 hc
    refine aw_aload_n 0 dX10_reads_11 rfl rfl ?_
    refine aw_getR dX10_reads_12 fl_X10_83 rfl o1 (x := (h v0 30)) rfl ?_
    refine aw_aload_n 0 dX10_reads_15 rfl rfl ?_
    refine aw_getI dX10_reads_16 fl_X10_142 rfl o1 (x := (h v0 32)) rfl ?_
    obtain ⟨o2, k⟩ := k
    obtain ⟨o3, k⟩ := k
    obtain ⟨o4, k⟩ := k
    refine aw_iald dX10_reads_19 o2 o3 o4 (x := (h (h v0 30) (h v0 32))) rfl ?_
    refine aw_callS (M' := mm_X10_isDigit) [vI (h (h v0 30) (h v0 32))] [] lk_X10_149 dX10_reads_20 rfl (Nat.le_of_ble_eq_true rfl) ⟨by decide, by decide, Nat.zero_le _, Nat.zero_le _⟩ ?_
    refine pu_X10_isDigit ?_
    refine aw_if_eq (tgt := 39) dX10_reads_23 (by decide) (fun hc => ?_) (fun hc => ?_)
    · have k := k.1 (b2i_0.mp hc)
      refine aw_iconst dX10_reads_39 ⟨by decide, by decide⟩ ?_
      exact aw_zret dX10_reads_40 rfl (by decide) k
    · have k := k.2 (b2i_n.mp hc)
      refine aw_aload_n 0 dX10_reads_26 rfl rfl ?_
      refine aw_getI dX10_reads_27 fl_X10_139 rfl o1 (x := (h v0 33)) rfl ?_
      refine aw_aload_n 0 dX10_reads_30 rfl rfl ?_
      refine aw_getI dX10_reads_31 fl_X10_142 rfl o1 (x := (h v0 32)) rfl ?_
      obtain ⟨o5, k⟩ := k
      refine aw_isub dX10_reads_34 o5 ?_
      refine aw_iconst dX10_reads_35 ⟨by decide, by decide⟩ ?_
      refine aw_icmp_le (tgt := 41) dX10_reads_36 (by decide) (fun hc => ?_) (fun hc => ?_)
      · have k := k.1 hc
        refine aw_iconst dX10_reads_41 ⟨by decide, by decide⟩ ?_
        refine aw_istore dX10_reads_42 (by decide) ?_
        refine aw_aload_n 1 dX10_reads_44 rfl rfl ?_
        refine aw_getI dX10_reads_45 fl_X10_142 rfl o1 (x := (h v0 32)) rfl ?_
        refine aw_istore dX10_reads_48 (by decide) ?_
        exact aw_sub [2, 3, 4, 5, 1, 0] rfl k
      · have k := k.2 hc
        refine aw_iconst dX10_reads_39 ⟨by decide, by decide⟩ ?_
        exact aw_zret dX10_reads_40 rfl (by decide) k
theorem rn_X10_reads {G : GG} {Q : Option VV → Hp → Prop} {v0 v1 v2 v3 : Int} {h : Hp} (k : (h v0 (-1) = 11) ∧ (((h v0 32) = (h v0 31)) → Q (some (vI 0)) h) ∧ ((¬ ((h v0 32) = (h v0 31))) → (h (h v0 30) (-1) = 20) ∧ (0 ≤ (h v0 32)) ∧ ((h v0 32) < h (h v0 30) (-2)) ∧ ((¬ (48 ≤ (h (h v0 30) (h v0 32)) ∧ (h (h v0 30) (h v0 32)) ≤ 57)) → Q (some (vI 0)) h) ∧ ((48 ≤ (h (h v0 30) (h v0 32)) ∧ (h (h v0 30) (h v0 32)) ≤ 57) → (inI ((h v0 33) - (h v0 32))) ∧ ((((h v0 33) - (h v0 32)) ≤ 4) → AW G mm_X10_reads (0, 0) 50 [(0, vR v0), (1, vI v1), (2, vI v2), (3, vI v3), (4, vI 0), (5, vI (h v0 32))] [] h Q) ∧ ((¬ (((h v0 33) - (h v0 32)) ≤ 4)) → Q (some (vI 0)) h)))) : Runs G mm_X10_reads [vR v0, vI v1, vI v2, vI v3] h Q := Runs.of (by decide +kernel) (Nat.le_of_ble_eq_true rfl) (sg_X10_reads_0 (b := (0, 0)) k)
set_option maxRecDepth 20000 in
theorem sg_X10_reads_50 {G : GG} {b : Nat × Nat} {Q : Option VV → Hp → Prop} {v0 v1 v2 v3 v4 v5 : Int} {h : Hp} (k : (h v0 (-1) = 11) ∧ (((h v0 33) ≤ v5) → ((v2 ≤ v4 ∧ v4 ≤ v3) → (h (h v0 36) (-1) = 20) ∧ (0 ≤ v1) ∧ (v1 < h (h v0 36) (-2)) ∧ ∀ h1, h1 = wr h (h v0 36) v1 v4 → Runs G mm_X10_next [vR v0] h1 (fun r h' => AW G mm_X10_reads b 110 [] (r.toList ++ []) h' Q)) ∧ ((¬ (v2 ≤ v4 ∧ v4 ≤ v3)) → Q (some (vI 0)) h)) ∧ ((¬ ((h v0 33) ≤ v5)) → (inI (10 * v4)) ∧ (h (h v0 30) (-1) = 20) ∧ (0 ≤ v5) ∧ (v5 < h (h v0 30) (-2)) ∧ (inI ((10 * v4) + (h (h v0 30) v5))) ∧ (inI (((10 * v4) + (h (h v0 30) v5)) - 48)) ∧ (inI (v5 + 1)) ∧ AW G mm_X10_reads b 50 [(0, vR v0), (1, vI v1), (2, vI v2), (3, vI v3), (4, vI (((10 * v4) + (h (h v0 30) v5)) - 48)), (5, vI (v5 + 1))] [] h Q)) : AW G mm_X10_reads b 50 [(0, vR v0), (1, vI v1), (2, vI v2), (3, vI v3), (4, vI v4), (5, vI v5)] [] h Q := by
  refine aw_iload 5 dX10_reads_50 rfl ?_
  refine aw_aload_n 0 dX10_reads_52 rfl rfl ?_
  obtain ⟨o1, k⟩ := k
  refine aw_getI dX10_reads_53 fl_X10_139 rfl o1 (x := (h v0 33)) rfl ?_
  refine aw_icmp_ge (tgt := 83) dX10_reads_56 (by decide) (fun hc => ?_) (fun hc => ?_)
  · have k := k.1 hc
    refine aw_iload 4 dX10_reads_83 rfl ?_
    refine aw_i2l dX10_reads_85 ?_
    refine aw_iload_n 2 dX10_reads_86 rfl rfl ?_
    refine aw_i2l dX10_reads_87 ?_
    refine aw_iload_n 3 dX10_reads_88 rfl rfl ?_
    refine aw_i2l dX10_reads_89 ?_
    refine aw_callS (M' := mm_X10_in) [vL v4, vL v2, vL v3] [] lk_X10_95 dX10_reads_90 rfl (Nat.le_of_ble_eq_true rfl) ⟨by decide, by decide, Nat.zero_le _, Nat.zero_le _⟩ ?_
    refine pu_X10_in ?_
    refine aw_if_ne (tgt := 98) dX10_reads_93 (by decide) (fun hc => ?_) (fun hc => ?_)
    · have k := k.1 (b2i_n.mp hc)
      refine aw_aload_n 0 dX10_reads_98 rfl rfl ?_
      refine aw_getR dX10_reads_99 fl_X10_86 rfl o1 (x := (h v0 36)) rfl ?_
      refine aw_iload_n 1 dX10_reads_102 rfl rfl ?_
      refine aw_iload 4 dX10_reads_103 rfl ?_
      obtain ⟨o2, k⟩ := k
      obtain ⟨o3, k⟩ := k
      obtain ⟨o4, k⟩ := k
      refine aw_iast dX10_reads_105 o2 o3 o4 ?_
      refine aw_hp (fun h1 e5 => ?_)
      have k := k h1 e5
      refine aw_aload_n 0 dX10_reads_106 rfl rfl ?_
      have q6 := sh_w e5 o3 o1
      refine aw_callV (M' := mm_X10_next) 10 [] [] lk_X10_152 ⟨_, rfl, rfl⟩ dX10_reads_107 rfl (Nat.le_of_ble_eq_true rfl) ⟨by decide, by decide, Nat.zero_le _, Nat.zero_le _⟩ q6 ?_
      exact k.mono (fun _ _ z => aw_sub [] rfl z)
    · have k := k.2 (b2i_0.mp hc)
      refine aw_iconst dX10_reads_96 ⟨by decide, by decide⟩ ?_
      exact aw_zret dX10_reads_97 rfl (by decide) k
  · have k := k.2 hc
    refine aw_bipush dX10_reads_59 ⟨by decide, by decide⟩ (by decide) ?_
    refine aw_iload 4 dX10_reads_61 rfl ?_
    obtain ⟨o7, k⟩ := k
    refine aw_imul dX10_reads_63 o7 ?_
    refine aw_aload_n 0 dX10_reads_64 rfl rfl ?_
    refine aw_getR dX10_reads_65 fl_X10_83 rfl o1 (x := (h v0 30)) rfl ?_
    refine aw_iload 5 dX10_reads_68 rfl ?_
    obtain ⟨o8, k⟩ := k
    obtain ⟨o9, k⟩ := k
    obtain ⟨o10, k⟩ := k
    refine aw_iald dX10_reads_70 o8 o9 o10 (x := (h (h v0 30) v5)) rfl ?_
    obtain ⟨o11, k⟩ := k
    refine aw_iadd dX10_reads_71 o11 ?_
    refine aw_bipush dX10_reads_72 ⟨by decide, by decide⟩ (by decide) ?_
    obtain ⟨o12, k⟩ := k
    refine aw_isub dX10_reads_74 o12 ?_
    refine aw_istore dX10_reads_75 (by decide) ?_
    obtain ⟨o13, k⟩ := k
    refine aw_iinc 5 dX10_reads_77 rfl o13 (by decide) ?_
    refine aw_goto (tgt := 50) dX10_reads_80 (by decide) ?_
    exact aw_sub [2, 3, 4, 5, 1, 0] rfl k
set_option maxRecDepth 20000 in
theorem sg_X10_reads_110 {G : GG} {b : Nat × Nat} {Q : Option VV → Hp → Prop} {h : Hp} (k : Q (some (vI 1)) h) : AW G mm_X10_reads b 110 [] [] h Q := by
  refine aw_iconst dX10_reads_110 ⟨by decide, by decide⟩ ?_
  exact aw_zret dX10_reads_111 rfl (by decide) k
set_option maxRecDepth 20000 in
theorem sg_X10_readsAll_0 {G : GG} {b : Nat × Nat} {Q : Option VV → Hp → Prop} {v0 v1 : Int} {h : Hp} (k : (h v0 (-1) = 11) ∧ (v1 = 0 ∨ v1 = 1) ∧ ∀ h1, h1 = wr h v0 35 v1 → ∀ h2, h2 = wr h1 v0 33 0 → ∀ h3, h3 = wr h2 v0 34 1 → Runs G mm_X10_next [vR v0] h3 (fun r h' => AW G mm_X10_readsAll b 19 [(0, vR v0)] (r.toList ++ []) h' Q)) : AW G mm_X10_readsAll b 0 [(0, vR v0), (1, vI v1)] [] h Q := by
  refine aw_aload_n 0 dX10_readsAll_0 rfl rfl ?_
  refine aw_iload_n 1 dX10_readsAll_1 rfl rfl ?_
  obtain ⟨o1, k⟩ := k
  obtain ⟨o2, k⟩ := k
  refine aw_putZ dX10_readsAll_2 fl_X10_177 (fun q hq hf => by cases hq; cases hf) rfl rfl o2 o1 ?_
  refine aw_hp (fun h1 e3 => ?_)
  have k := k h1 e3
  refine aw_aload_n 0 dX10_readsAll_5 rfl rfl ?_
  refine aw_iconst dX10_readsAll_6 ⟨by decide, by decide⟩ ?_
  have q4 := sh_w e3 (by decide) o1
  refine aw_putI dX10_readsAll_7 fl_X10_139 (fun q hq hf => by cases hq; cases hf) rfl rfl q4 ?_
  refine aw_hp (fun h2 e5 => ?_)
  have k := k h2 e5
  refine aw_aload_n 0 dX10_readsAll_10 rfl rfl ?_
  refine aw_iconst dX10_readsAll_11 ⟨by decide, by decide⟩ ?_
  have q6 := sh_w e5 (by decide) q4
  refine aw_putI dX10_readsAll_12 fl_X10_183 (fun q hq hf => by cases hq; cases hf) rfl rfl q6 ?_
  refine aw_hp (fun h3 e7 => ?_)
  have k := k h3 e7
  refine aw_aload_n 0 dX10_readsAll_15 rfl rfl ?_
  have q8 := sh_w e7 (by decide) q6
  refine aw_callV (M' := mm_X10_next) 10 [] [] lk_X10_152 ⟨_, rfl, rfl⟩ dX10_readsAll_16 rfl (Nat.le_of_ble_eq_true rfl) ⟨by decide, by decide, Nat.zero_le _, Nat.zero_le _⟩ q8 ?_
  exact k.mono (fun _ _ z => aw_sub [0] rfl z)
theorem rn_X10_readsAll {G : GG} {Q : Option VV → Hp → Prop} {v0 v1 : Int} {h : Hp} (k : (h v0 (-1) = 11) ∧ (v1 = 0 ∨ v1 = 1) ∧ ∀ h1, h1 = wr h v0 35 v1 → ∀ h2, h2 = wr h1 v0 33 0 → ∀ h3, h3 = wr h2 v0 34 1 → Runs G mm_X10_next [vR v0] h3 (fun r h' => AW G mm_X10_readsAll (0, 0) 19 [(0, vR v0)] (r.toList ++ []) h' Q)) : Runs G mm_X10_readsAll [vR v0, vI v1] h Q := Runs.of (by decide +kernel) (Nat.le_of_ble_eq_true rfl) (sg_X10_readsAll_0 (b := (0, 0)) k)
set_option maxRecDepth 20000 in
theorem sg_X10_readsAll_19 {G : GG} {b : Nat × Nat} {Q : Option VV → Hp → Prop} {v0 : Int} {h : Hp} (k : (h v0 (-1) = 11) ∧ Runs G mm_X10_readsClause [vR v0] h (fun r h' => AW G mm_X10_readsAll b 23 [(0, vR v0)] (r.toList ++ []) h' Q)) : AW G mm_X10_readsAll b 19 [(0, vR v0)] [] h Q := by
  refine aw_aload_n 0 dX10_readsAll_19 rfl rfl ?_
  obtain ⟨o1, k⟩ := k
  refine aw_callV (M' := mm_X10_readsClause) 10 [] [] lk_X10_186 ⟨_, rfl, rfl⟩ dX10_readsAll_20 rfl (Nat.le_of_ble_eq_true rfl) ⟨by decide, by decide, Nat.zero_le _, Nat.zero_le _⟩ o1 ?_
  exact k
set_option maxRecDepth 20000 in
theorem sg_X10_readsAll_23 {G : GG} {b : Nat × Nat} {Q : Option VV → Hp → Prop} {v0 s0 : Int} {h : Hp} (k : AW G mm_X10_readsAll b 24 [(0, vR v0), (2, vI s0)] [] h Q) : AW G mm_X10_readsAll b 23 [(0, vR v0)] [vI s0] h Q := by
  refine aw_istore_n dX10_readsAll_23 rfl (by decide) ?_
  exact aw_sub [1, 0] rfl k
set_option maxRecDepth 20000 in
theorem sg_X10_readsAll_24 {G : GG} {b : Nat × Nat} {Q : Option VV → Hp → Prop} {v0 v2 : Int} {h : Hp} (k : ((v2 = 0) → (v2 = 0 ∨ v2 = 1) ∧ Q (some (vI v2)) h) ∧ ((¬ (v2 = 0)) → (h v0 (-1) = 11) ∧ (((h v0 31) ≤ (h v0 32)) → (v2 = 0 ∨ v2 = 1) ∧ Q (some (vI v2)) h) ∧ ((¬ ((h v0 31) ≤ (h v0 32))) → ((24 ≤ (h v0 34)) → AW G mm_X10_readsAll b 24 [(0, vR v0), (2, vI 0)] [] h Q) ∧ ((¬ (24 ≤ (h v0 34))) → (h (h v0 30) (-1) = 20) ∧ (0 ≤ (h v0 32)) ∧ ((h v0 32) < h (h v0 30) (-2)) ∧ ((¬ (h (h v0 30) (h v0 32)) = 59) → AW G mm_X10_readsAll b 24 [(0, vR v0), (2, vI 0)] [] h Q) ∧ (((h (h v0 30) (h v0 32)) = 59) → Runs G mm_X10_next [vR v0] h (fun r h' => AW G mm_X10_readsAll b 76 [(0, vR v0)] (r.toList ++ []) h' Q)))))) : AW G mm_X10_readsAll b 24 [(0, vR v0), (2, vI v2)] [] h Q := by
  refine aw_iload_n 1 dX10_readsAll_24 rfl rfl ?_
  refine aw_if_eq (tgt := 94) dX10_readsAll_25 (by decide) (fun hc => ?_) (fun hc => ?_)
  · have k := k.1 hc
    refine aw_iload_n 1 dX10_readsAll_94 rfl rfl ?_
    obtain ⟨o1, k⟩ := k
    exact aw_zret dX10_readsAll_95 rfl o1 k
  · have k := k.2 hc
    refine aw_aload_n 0 dX10_readsAll_28 rfl rfl ?_
    obtain ⟨o2, k⟩ := k
    refine aw_getI dX10_readsAll_29 fl_X10_142 rfl o2 (x := (h v0 32)) rfl ?_
    refine aw_aload_n 0 dX10_readsAll_32 rfl rfl ?_
    refine aw_getI dX10_readsAll_33 fl_X10_128 rfl o2 (x := (h v0 31)) rfl ?_
    refine aw_icmp_ge (tgt := 94) dX10_readsAll_36 (by decide) (fun hc => ?_) (fun hc => ?_)
    · have k := k.1 hc
      refine aw_iload_n 1 dX10_readsAll_94 rfl rfl ?_
      obtain ⟨o3, k⟩ := k
      exact aw_zret dX10_readsAll_95 rfl o3 k
    · have k := k.2 hc
      refine aw_aload_n 0 dX10_readsAll_39 rfl rfl ?_
      refine aw_getI dX10_readsAll_40 fl_X10_183 rfl o2 (x := (h v0 34)) rfl ?_
      refine aw_bipush dX10_readsAll_43 ⟨by decide, by decide⟩ (by decide) ?_
      refine aw_icmp_ge (tgt := 66) dX10_readsAll_45 (by decide) (fun hc => ?_) (fun hc => ?_)
      · have k := k.1 hc
        refine aw_iconst dX10_readsAll_66 ⟨by decide, by decide⟩ ?_
        refine aw_istore_n dX10_readsAll_67 rfl (by decide) ?_
        refine aw_iload_n 0 dX10_readsAll_68 rfl rfl ?_
        refine aw_if_eq (tgt := 24) dX10_readsAll_69 (by decide) (fun _ => ?_) (fun hc => absurd hc (by decide))
        exact aw_sub [1, 0] rfl k
      · have k := k.2 hc
        refine aw_aload_n 0 dX10_readsAll_48 rfl rfl ?_
        refine aw_getR dX10_readsAll_49 fl_X10_83 rfl o2 (x := (h v0 30)) rfl ?_
        refine aw_aload_n 0 dX10_readsAll_52 rfl rfl ?_
        refine aw_getI dX10_readsAll_53 fl_X10_142 rfl o2 (x := (h v0 32)) rfl ?_
        obtain ⟨o4, k⟩ := k
        obtain ⟨o5, k⟩ := k
        obtain ⟨o6, k⟩ := k
        refine aw_iald dX10_readsAll_56 o4 o5 o6 (x := (h (h v0 30) (h v0 32))) rfl ?_
        refine aw_bipush dX10_readsAll_57 ⟨by decide, by decide⟩ (by decide) ?_
        refine aw_icmp_ne (tgt := 66) dX10_readsAll_59 (by decide) (fun hc => ?_) (fun hc => ?_)
        · have k := k.1 hc
          refine aw_iconst dX10_readsAll_66 ⟨by decide, by decide⟩ ?_
          refine aw_istore_n dX10_readsAll_67 rfl (by decide) ?_
          refine aw_iload_n 0 dX10_readsAll_68 rfl rfl ?_
          refine aw_if_eq (tgt := 24) dX10_readsAll_69 (by decide) (fun _ => ?_) (fun hc => absurd hc (by decide))
          exact aw_sub [1, 0] rfl k
        · have k := k.2 hc
          refine aw_iconst dX10_readsAll_62 ⟨by decide, by decide⟩ ?_
          refine aw_goto (tgt := 67) dX10_readsAll_63 (by decide) ?_
          refine aw_istore_n dX10_readsAll_67 rfl (by decide) ?_
          refine aw_iload_n 0 dX10_readsAll_68 rfl rfl ?_
          refine aw_if_eq (tgt := 24) dX10_readsAll_69 (by decide) (fun hc => absurd hc (by decide)) (fun _ => ?_)
          refine aw_aload_n 1 dX10_readsAll_72 rfl rfl ?_
          refine aw_callV (M' := mm_X10_next) 10 [] [] lk_X10_152 ⟨_, rfl, rfl⟩ dX10_readsAll_73 rfl (Nat.le_of_ble_eq_true rfl) ⟨by decide, by decide, Nat.zero_le _, Nat.zero_le _⟩ o2 ?_
          exact k.mono (fun _ _ z => aw_sub [1] rfl z)
set_option maxRecDepth 20000 in
theorem sg_X10_readsAll_76 {G : GG} {b : Nat × Nat} {Q : Option VV → Hp → Prop} {v0 : Int} {h : Hp} (k : (h v0 (-1) = 11) ∧ Runs G mm_X10_readsClause [vR v0] h (fun r h' => AW G mm_X10_readsAll b 80 [(0, vR v0)] (r.toList ++ []) h' Q)) : AW G mm_X10_readsAll b 76 [(0, vR v0)] [] h Q := by
  refine aw_aload_n 0 dX10_readsAll_76 rfl rfl ?_
  obtain ⟨o1, k⟩ := k
  refine aw_callV (M' := mm_X10_readsClause) 10 [] [] lk_X10_186 ⟨_, rfl, rfl⟩ dX10_readsAll_77 rfl (Nat.le_of_ble_eq_true rfl) ⟨by decide, by decide, Nat.zero_le _, Nat.zero_le _⟩ o1 ?_
  exact k
set_option maxRecDepth 20000 in
theorem sg_X10_readsAll_80 {G : GG} {b : Nat × Nat} {Q : Option VV → Hp → Prop} {v0 s0 : Int} {h : Hp} (k : (h v0 (-1) = 11) ∧ (inI ((h v0 34) + 1)) ∧ ∀ h1, h1 = wr h v0 34 ((h v0 34) + 1) → AW G mm_X10_readsAll b 24 [(0, vR v0), (2, vI s0)] [] h1 Q) : AW G mm_X10_readsAll b 80 [(0, vR v0)] [vI s0] h Q := by
  refine aw_istore_n dX10_readsAll_80 rfl (by decide) ?_
  refine aw_aload_n 1 dX10_readsAll_81 rfl rfl ?_
  refine aw_dup dX10_readsAll_82 rfl ?_
  obtain ⟨o1, k⟩ := k
  refine aw_getI dX10_readsAll_83 fl_X10_183 rfl o1 (x := (h v0 34)) rfl ?_
  refine aw_iconst dX10_readsAll_86 ⟨by decide, by decide⟩ ?_
  obtain ⟨o2, k⟩ := k
  refine aw_iadd dX10_readsAll_87 o2 ?_
  refine aw_putI dX10_readsAll_88 fl_X10_183 (fun q hq hf => by cases hq; cases hf) rfl rfl o1 ?_
  refine aw_hp (fun h1 e3 => ?_)
  have k := k h1 e3
  refine aw_goto (tgt := 24) dX10_readsAll_91 (by decide) ?_
  exact aw_sub [1, 0] rfl k
set_option maxRecDepth 20000 in
theorem sg_X10_readsClause_0 {G : GG} {b : Nat × Nat} {Q : Option VV → Hp → Prop} {v0 : Int} {h : Hp} (k : (h v0 (-1) = 11) ∧ Runs G mm_X10_wordHere [vR v0] h (fun r h' => AW G mm_X10_readsClause b 4 [(0, vR v0)] (r.toList ++ []) h' Q)) : AW G mm_X10_readsClause b 0 [(0, vR v0)] [] h Q := by
  refine aw_aload_n 0 dX10_readsClause_0 rfl rfl ?_
  obtain ⟨o1, k⟩ := k
  refine aw_callV (M' := mm_X10_wordHere) 10 [] [] lk_X10_170 ⟨_, rfl, rfl⟩ dX10_readsClause_1 rfl (Nat.le_of_ble_eq_true rfl) ⟨by decide, by decide, Nat.zero_le _, Nat.zero_le _⟩ o1 ?_
  exact k
theorem rn_X10_readsClause {G : GG} {Q : Option VV → Hp → Prop} {v0 : Int} {h : Hp} (k : (h v0 (-1) = 11) ∧ Runs G mm_X10_wordHere [vR v0] h (fun r h' => AW G mm_X10_readsClause (0, 0) 4 [(0, vR v0)] (r.toList ++ []) h' Q)) : Runs G mm_X10_readsClause [vR v0] h Q := Runs.of (by decide +kernel) (Nat.le_of_ble_eq_true rfl) (sg_X10_readsClause_0 (b := (0, 0)) k)
set_option maxRecDepth 20000 in
theorem sg_X10_readsClause_4 {G : GG} {b : Nat × Nat} {Q : Option VV → Hp → Prop} {v0 s0 : Int} {h : Hp} (k : ((¬ s0 = (-1)) → (h v0 (-1) = 11) ∧ Runs G mm_X10_next [vR v0] h (fun r h' => AW G mm_X10_readsClause b 16 [(0, vR v0), (1, vI s0)] (r.toList ++ []) h' Q)) ∧ ((s0 = (-1)) → Q (some (vI 0)) h)) : AW G mm_X10_readsClause b 4 [(0, vR v0)] [vI s0] h Q := by
  refine aw_istore_n dX10_readsClause_4 rfl (by decide) ?_
  refine aw_iload_n 0 dX10_readsClause_5 rfl rfl ?_
  refine aw_iconst dX10_readsClause_6 ⟨by decide, by decide⟩ ?_
  refine aw_icmp_ne (tgt := 12) dX10_readsClause_7 (by decide) (fun hc => ?_) (fun hc => ?_)
  · have k := k.1 hc
    refine aw_aload_n 1 dX10_readsClause_12 rfl rfl ?_
    obtain ⟨o1, k⟩ := k
    refine aw_callV (M' := mm_X10_next) 10 [] [] lk_X10_152 ⟨_, rfl, rfl⟩ dX10_readsClause_13 rfl (Nat.le_of_ble_eq_true rfl) ⟨by decide, by decide, Nat.zero_le _, Nat.zero_le _⟩ o1 ?_
    exact k.mono (fun _ _ z => aw_sub [1, 0] rfl z)
  · have k := k.2 hc
    refine aw_iconst dX10_readsClause_10 ⟨by decide, by decide⟩ ?_
    exact aw_zret dX10_readsClause_11 rfl (by decide) k
set_option maxRecDepth 20000 in
theorem sg_X10_readsClause_16 {G : GG} {b : Nat × Nat} {Q : Option VV → Hp → Prop} {v0 v1 : Int} {h : Hp} (k : (h v0 (-1) = 11) ∧ Runs G mm_X10_readsRest [vR v0, vI v1] h (fun r h' => AW G mm_X10_readsClause b 21 [(0, vR v0), (1, vI v1)] (r.toList ++ []) h' Q)) : AW G mm_X10_readsClause b 16 [(0, vR v0), (1, vI v1)] [] h Q := by
  refine aw_aload_n 0 dX10_readsClause_16 rfl rfl ?_
  refine aw_iload_n 1 dX10_readsClause_17 rfl rfl ?_
  obtain ⟨o1, k⟩ := k
  refine aw_callV (M' := mm_X10_readsRest) 10 [vI v1] [] lk_X10_174 ⟨_, rfl, rfl⟩ dX10_readsClause_18 rfl (Nat.le_of_ble_eq_true rfl) ⟨by decide, by decide, Nat.zero_le _, Nat.zero_le _⟩ o1 ?_
  exact k
set_option maxRecDepth 20000 in
theorem sg_X10_readsClause_21 {G : GG} {b : Nat × Nat} {Q : Option VV → Hp → Prop} {v0 v1 s0 : Int} {h : Hp} (k : ((¬ s0 = 0) → (h v0 (-1) = 11) ∧ (((h v0 35) = 0) → Q (some (vI 1)) h) ∧ ((¬ ((h v0 35) = 0)) → Runs G mm_X10_does [vR v0, vI v1] h (fun r h' => AW G mm_X10_readsClause b 38 [] (r.toList ++ []) h' Q))) ∧ ((s0 = 0) → Q (some (vI 0)) h)) : AW G mm_X10_readsClause b 21 [(0, vR v0), (1, vI v1)] [vI s0] h Q := by
  refine aw_if_ne (tgt := 26) dX10_readsClause_21 (by decide) (fun hc => ?_) (fun hc => ?_)
  · have k := k.1 hc
    refine aw_aload_n 0 dX10_readsClause_26 rfl rfl ?_
    obtain ⟨o1, k⟩ := k
    refine aw_getI dX10_readsClause_27 fl_X10_177 rfl o1 (x := (h v0 35)) rfl ?_
    refine aw_if_eq (tgt := 38) dX10_readsClause_30 (by decide) (fun hc => ?_) (fun hc => ?_)
    · have k := k.1 hc
      refine aw_iconst dX10_readsClause_38 ⟨by decide, by decide⟩ ?_
      exact aw_zret dX10_readsClause_39 rfl (by decide) k
    · have k := k.2 hc
      refine aw_aload_n 0 dX10_readsClause_33 rfl rfl ?_
      refine aw_iload_n 1 dX10_readsClause_34 rfl rfl ?_
      refine aw_callV (M' := mm_X10_does) 10 [vI v1] [] lk_X10_180 ⟨_, rfl, rfl⟩ dX10_readsClause_35 rfl (Nat.le_of_ble_eq_true rfl) ⟨by decide, by decide, Nat.zero_le _, Nat.zero_le _⟩ o1 ?_
      exact k.mono (fun _ _ z => aw_sub [] rfl z)
  · have k := k.2 hc
    refine aw_iconst dX10_readsClause_24 ⟨by decide, by decide⟩ ?_
    exact aw_zret dX10_readsClause_25 rfl (by decide) k
set_option maxRecDepth 20000 in
theorem sg_X10_readsClause_38 {G : GG} {b : Nat × Nat} {Q : Option VV → Hp → Prop} {h : Hp} (k : Q (some (vI 1)) h) : AW G mm_X10_readsClause b 38 [] [] h Q := by
  refine aw_iconst dX10_readsClause_38 ⟨by decide, by decide⟩ ?_
  exact aw_zret dX10_readsClause_39 rfl (by decide) k
set_option maxRecDepth 20000 in
theorem sg_X10_readsRest_0 {G : GG} {b : Nat × Nat} {Q : Option VV → Hp → Prop} {v0 v1 : Int} {h : Hp} (k : ((v1 = 0) → Q (some (vI 1)) h) ∧ ((v1 = 1) → (h v0 (-1) = 11) ∧ Runs G mm_X10_reads [vR v0, vI 0, vI 0, vI 1] h (fun r h' => AW G mm_X10_readsRest b 45 [(0, vR v0)] (r.toList ++ []) h' Q)) ∧ ((v1 = 2) → (h v0 (-1) = 11) ∧ Runs G mm_X10_reads [vR v0, vI 0, vI 0, vI 1] h (fun r h' => AW G mm_X10_readsRest b 111 [(0, vR v0)] (r.toList ++ []) h' Q)) ∧ ((v1 = 3) → (h v0 (-1) = 11) ∧ Runs G mm_X10_reads [vR v0, vI 0, vI 0, vI 1] h (fun r h' => AW G mm_X10_readsRest b 150 [(0, vR v0)] (r.toList ++ []) h' Q)) ∧ ((v1 = 4) → (h v0 (-1) = 11) ∧ Runs G mm_X10_reads [vR v0, vI 0, vI 0, vI 3] h (fun r h' => AW G mm_X10_readsRest b 177 [(0, vR v0)] (r.toList ++ []) h' Q)) ∧ ((v1 < 0 ∨ 4 < v1) → (h v0 (-1) = 11) ∧ Runs G mm_X10_reads [vR v0, vI 0, vI 0, vI 1] h (fun r h' => AW G mm_X10_readsRest b 214 [] (r.toList ++ []) h' Q))) : AW G mm_X10_readsRest b 0 [(0, vR v0), (1, vI v1)] [] h Q := by
  refine aw_iload_n 1 dX10_readsRest_0 rfl rfl ?_
  rcases (show v1 = 0 ∨ v1 = 1 ∨ v1 = 2 ∨ v1 = 3 ∨ v1 = 4 ∨ (v1 < 0 ∨ 4 < v1) by omega) with hc | hc | hc | hc | hc | hc
  · have k := k.1 hc
    refine aw_tableIn (x := v1) (tgt := 36) dX10_readsRest_1 (by omega) (by omega) (by rw [hc]; rfl) (by decide) ?_
    refine aw_iconst dX10_readsRest_36 ⟨by decide, by decide⟩ ?_
    exact aw_zret dX10_readsRest_37 rfl (by decide) k
  · have k := k.2.1 hc
    refine aw_tableIn (x := v1) (tgt := 38) dX10_readsRest_1 (by omega) (by omega) (by rw [hc]; rfl) (by decide) ?_
    refine aw_aload_n 0 dX10_readsRest_38 rfl rfl ?_
    refine aw_iconst dX10_readsRest_39 ⟨by decide, by decide⟩ ?_
    refine aw_iconst dX10_readsRest_40 ⟨by decide, by decide⟩ ?_
    refine aw_iconst dX10_readsRest_41 ⟨by decide, by decide⟩ ?_
    obtain ⟨o1, k⟩ := k
    refine aw_callV (M' := mm_X10_reads) 10 [vI 0, vI 0, vI 1] [] lk_X10_155 ⟨_, rfl, rfl⟩ dX10_readsRest_42 rfl (Nat.le_of_ble_eq_true rfl) ⟨by decide, by decide, Nat.zero_le _, Nat.zero_le _⟩ o1 ?_
    exact k.mono (fun _ _ z => aw_sub [0] rfl z)
  · have k := k.2.2.1 hc
    refine aw_tableIn (x := v1) (tgt := 104) dX10_readsRest_1 (by omega) (by omega) (by rw [hc]; rfl) (by decide) ?_
    refine aw_aload_n 0 dX10_readsRest_104 rfl rfl ?_
    refine aw_iconst dX10_readsRest_105 ⟨by decide, by decide⟩ ?_
    refine aw_iconst dX10_readsRest_106 ⟨by decide, by decide⟩ ?_
    refine aw_iconst dX10_readsRest_107 ⟨by decide, by decide⟩ ?_
    obtain ⟨o2, k⟩ := k
    refine aw_callV (M' := mm_X10_reads) 10 [vI 0, vI 0, vI 1] [] lk_X10_155 ⟨_, rfl, rfl⟩ dX10_readsRest_108 rfl (Nat.le_of_ble_eq_true rfl) ⟨by decide, by decide, Nat.zero_le _, Nat.zero_le _⟩ o2 ?_
    exact k.mono (fun _ _ z => aw_sub [0] rfl z)
  · have k := k.2.2.2.1 hc
    refine aw_tableIn (x := v1) (tgt := 143) dX10_readsRest_1 (by omega) (by omega) (by rw [hc]; rfl) (by decide) ?_
    refine aw_aload_n 0 dX10_readsRest_143 rfl rfl ?_
    refine aw_iconst dX10_readsRest_144 ⟨by decide, by decide⟩ ?_
    refine aw_iconst dX10_readsRest_145 ⟨by decide, by decide⟩ ?_
    refine aw_iconst dX10_readsRest_146 ⟨by decide, by decide⟩ ?_
    obtain ⟨o3, k⟩ := k
    refine aw_callV (M' := mm_X10_reads) 10 [vI 0, vI 0, vI 1] [] lk_X10_155 ⟨_, rfl, rfl⟩ dX10_readsRest_147 rfl (Nat.le_of_ble_eq_true rfl) ⟨by decide, by decide, Nat.zero_le _, Nat.zero_le _⟩ o3 ?_
    exact k.mono (fun _ _ z => aw_sub [0] rfl z)
  · have k := k.2.2.2.2.1 hc
    refine aw_tableIn (x := v1) (tgt := 170) dX10_readsRest_1 (by omega) (by omega) (by rw [hc]; rfl) (by decide) ?_
    refine aw_aload_n 0 dX10_readsRest_170 rfl rfl ?_
    refine aw_iconst dX10_readsRest_171 ⟨by decide, by decide⟩ ?_
    refine aw_iconst dX10_readsRest_172 ⟨by decide, by decide⟩ ?_
    refine aw_iconst dX10_readsRest_173 ⟨by decide, by decide⟩ ?_
    obtain ⟨o4, k⟩ := k
    refine aw_callV (M' := mm_X10_reads) 10 [vI 0, vI 0, vI 3] [] lk_X10_155 ⟨_, rfl, rfl⟩ dX10_readsRest_174 rfl (Nat.le_of_ble_eq_true rfl) ⟨by decide, by decide, Nat.zero_le _, Nat.zero_le _⟩ o4 ?_
    exact k.mono (fun _ _ z => aw_sub [0] rfl z)
  · have k := k.2.2.2.2.2 hc
    refine aw_tableOut (x := v1) (tgt := 207) dX10_readsRest_1 hc (by decide) ?_
    refine aw_aload_n 0 dX10_readsRest_207 rfl rfl ?_
    refine aw_iconst dX10_readsRest_208 ⟨by decide, by decide⟩ ?_
    refine aw_iconst dX10_readsRest_209 ⟨by decide, by decide⟩ ?_
    refine aw_iconst dX10_readsRest_210 ⟨by decide, by decide⟩ ?_
    obtain ⟨o5, k⟩ := k
    refine aw_callV (M' := mm_X10_reads) 10 [vI 0, vI 0, vI 1] [] lk_X10_155 ⟨_, rfl, rfl⟩ dX10_readsRest_211 rfl (Nat.le_of_ble_eq_true rfl) ⟨by decide, by decide, Nat.zero_le _, Nat.zero_le _⟩ o5 ?_
    exact k.mono (fun _ _ z => aw_sub [] rfl z)
theorem rn_X10_readsRest {G : GG} {Q : Option VV → Hp → Prop} {v0 v1 : Int} {h : Hp} (k : ((v1 = 0) → Q (some (vI 1)) h) ∧ ((v1 = 1) → (h v0 (-1) = 11) ∧ Runs G mm_X10_reads [vR v0, vI 0, vI 0, vI 1] h (fun r h' => AW G mm_X10_readsRest (0, 0) 45 [(0, vR v0)] (r.toList ++ []) h' Q)) ∧ ((v1 = 2) → (h v0 (-1) = 11) ∧ Runs G mm_X10_reads [vR v0, vI 0, vI 0, vI 1] h (fun r h' => AW G mm_X10_readsRest (0, 0) 111 [(0, vR v0)] (r.toList ++ []) h' Q)) ∧ ((v1 = 3) → (h v0 (-1) = 11) ∧ Runs G mm_X10_reads [vR v0, vI 0, vI 0, vI 1] h (fun r h' => AW G mm_X10_readsRest (0, 0) 150 [(0, vR v0)] (r.toList ++ []) h' Q)) ∧ ((v1 = 4) → (h v0 (-1) = 11) ∧ Runs G mm_X10_reads [vR v0, vI 0, vI 0, vI 3] h (fun r h' => AW G mm_X10_readsRest (0, 0) 177 [(0, vR v0)] (r.toList ++ []) h' Q)) ∧ ((v1 < 0 ∨ 4 < v1) → (h v0 (-1) = 11) ∧ Runs G mm_X10_reads [vR v0, vI 0, vI 0, vI 1] h (fun r h' => AW G mm_X10_readsRest (0, 0) 214 [] (r.toList ++ []) h' Q))) : Runs G mm_X10_readsRest [vR v0, vI v1] h Q := Runs.of (by decide +kernel) (Nat.le_of_ble_eq_true rfl) (sg_X10_readsRest_0 (b := (0, 0)) k)
set_option maxRecDepth 20000 in
theorem sg_X10_readsRest_45 {G : GG} {b : Nat × Nat} {Q : Option VV → Hp → Prop} {v0 s0 : Int} {h : Hp} (k : ((s0 = 0) → Q (some (vI 0)) h) ∧ ((¬ (s0 = 0)) → (h v0 (-1) = 11) ∧ Runs G mm_X10_reads [vR v0, vI 1, vI 0, vI 3] h (fun r h' => AW G mm_X10_readsRest b 55 [(0, vR v0)] (r.toList ++ []) h' Q))) : AW G mm_X10_readsRest b 45 [(0, vR v0)] [vI s0] h Q := by
  refine aw_if_eq (tgt := 102) dX10_readsRest_45 (by decide) (fun hc => ?_) (fun hc => ?_)
  · have k := k.1 hc
    refine aw_iconst dX10_readsRest_102 ⟨by decide, by decide⟩ ?_
    exact aw_zret dX10_readsRest_103 rfl (by decide) k
  · have k := k.2 hc
    refine aw_aload_n 0 dX10_readsRest_48 rfl rfl ?_
    refine aw_iconst dX10_readsRest_49 ⟨by decide, by decide⟩ ?_
    refine aw_iconst dX10_readsRest_50 ⟨by decide, by decide⟩ ?_
    refine aw_iconst dX10_readsRest_51 ⟨by decide, by decide⟩ ?_
    obtain ⟨o1, k⟩ := k
    refine aw_callV (M' := mm_X10_reads) 10 [vI 1, vI 0, vI 3] [] lk_X10_155 ⟨_, rfl, rfl⟩ dX10_readsRest_52 rfl (Nat.le_of_ble_eq_true rfl) ⟨by decide, by decide, Nat.zero_le _, Nat.zero_le _⟩ o1 ?_
    exact k
set_option maxRecDepth 20000 in
theorem sg_X10_readsRest_111 {G : GG} {b : Nat × Nat} {Q : Option VV → Hp → Prop} {v0 s0 : Int} {h : Hp} (k : ((s0 = 0) → Q (some (vI 0)) h) ∧ ((¬ (s0 = 0)) → (h v0 (-1) = 11) ∧ Runs G mm_X10_reads [vR v0, vI 1, vI 0, vI 11] h (fun r h' => AW G mm_X10_readsRest b 122 [(0, vR v0)] (r.toList ++ []) h' Q))) : AW G mm_X10_readsRest b 111 [(0, vR v0)] [vI s0] h Q := by
  refine aw_if_eq (tgt := 141) dX10_readsRest_111 (by decide) (fun hc => ?_) (fun hc => ?_)
  · have k := k.1 hc
    refine aw_iconst dX10_readsRest_141 ⟨by decide, by decide⟩ ?_
    exact aw_zret dX10_readsRest_142 rfl (by decide) k
  · have k := k.2 hc
    refine aw_aload_n 0 dX10_readsRest_114 rfl rfl ?_
    refine aw_iconst dX10_readsRest_115 ⟨by decide, by decide⟩ ?_
    refine aw_iconst dX10_readsRest_116 ⟨by decide, by decide⟩ ?_
    refine aw_bipush dX10_readsRest_117 ⟨by decide, by decide⟩ (by decide) ?_
    obtain ⟨o1, k⟩ := k
    refine aw_callV (M' := mm_X10_reads) 10 [vI 1, vI 0, vI 11] [] lk_X10_155 ⟨_, rfl, rfl⟩ dX10_readsRest_119 rfl (Nat.le_of_ble_eq_true rfl) ⟨by decide, by decide, Nat.zero_le _, Nat.zero_le _⟩ o1 ?_
    exact k
set_option maxRecDepth 20000 in
theorem sg_X10_readsRest_150 {G : GG} {b : Nat × Nat} {Q : Option VV → Hp → Prop} {v0 s0 : Int} {h : Hp} (k : ((s0 = 0) → Q (some (vI 0)) h) ∧ ((¬ (s0 = 0)) → (h v0 (-1) = 11) ∧ Runs G mm_X10_reads [vR v0, vI 1, vI 1, vI 9] h (fun r h' => AW G mm_X10_readsRest b 161 [] (r.toList ++ []) h' Q))) : AW G mm_X10_readsRest b 150 [(0, vR v0)] [vI s0] h Q := by
  refine aw_if_eq (tgt := 168) dX10_readsRest_150 (by decide) (fun hc => ?_) (fun hc => ?_)
  · have k := k.1 hc
    refine aw_iconst dX10_readsRest_168 ⟨by decide, by decide⟩ ?_
    exact aw_zret dX10_readsRest_169 rfl (by decide) k
  · have k := k.2 hc
    refine aw_aload_n 0 dX10_readsRest_153 rfl rfl ?_
    refine aw_iconst dX10_readsRest_154 ⟨by decide, by decide⟩ ?_
    refine aw_iconst dX10_readsRest_155 ⟨by decide, by decide⟩ ?_
    refine aw_bipush dX10_readsRest_156 ⟨by decide, by decide⟩ (by decide) ?_
    obtain ⟨o1, k⟩ := k
    refine aw_callV (M' := mm_X10_reads) 10 [vI 1, vI 1, vI 9] [] lk_X10_155 ⟨_, rfl, rfl⟩ dX10_readsRest_158 rfl (Nat.le_of_ble_eq_true rfl) ⟨by decide, by decide, Nat.zero_le _, Nat.zero_le _⟩ o1 ?_
    exact k.mono (fun _ _ z => aw_sub [] rfl z)
set_option maxRecDepth 20000 in
theorem sg_X10_readsRest_177 {G : GG} {b : Nat × Nat} {Q : Option VV → Hp → Prop} {v0 s0 : Int} {h : Hp} (k : ((s0 = 0) → Q (some (vI 0)) h) ∧ ((¬ (s0 = 0)) → (h v0 (-1) = 11) ∧ Runs G mm_X10_reads [vR v0, vI 1, vI 0, vI 3] h (fun r h' => AW G mm_X10_readsRest b 187 [(0, vR v0)] (r.toList ++ []) h' Q))) : AW G mm_X10_readsRest b 177 [(0, vR v0)] [vI s0] h Q := by
  refine aw_if_eq (tgt := 205) dX10_readsRest_177 (by decide) (fun hc => ?_) (fun hc => ?_)
  · have k := k.1 hc
    refine aw_iconst dX10_readsRest_205 ⟨by decide, by decide⟩ ?_
    exact aw_zret dX10_readsRest_206 rfl (by decide) k
  · have k := k.2 hc
    refine aw_aload_n 0 dX10_readsRest_180 rfl rfl ?_
    refine aw_iconst dX10_readsRest_181 ⟨by decide, by decide⟩ ?_
    refine aw_iconst dX10_readsRest_182 ⟨by decide, by decide⟩ ?_
    refine aw_iconst dX10_readsRest_183 ⟨by decide, by decide⟩ ?_
    obtain ⟨o1, k⟩ := k
    refine aw_callV (M' := mm_X10_reads) 10 [vI 1, vI 0, vI 3] [] lk_X10_155 ⟨_, rfl, rfl⟩ dX10_readsRest_184 rfl (Nat.le_of_ble_eq_true rfl) ⟨by decide, by decide, Nat.zero_le _, Nat.zero_le _⟩ o1 ?_
    exact k
set_option maxRecDepth 20000 in
theorem sg_X10_readsRest_214 {G : GG} {b : Nat × Nat} {Q : Option VV → Hp → Prop} {s0 : Int} {h : Hp} (k : (s0 = 0 ∨ s0 = 1) ∧ Q (some (vI s0)) h) : AW G mm_X10_readsRest b 214 [] [vI s0] h Q := by
  obtain ⟨o1, k⟩ := k
  exact aw_zret dX10_readsRest_214 rfl o1 k
set_option maxRecDepth 20000 in
theorem sg_X10_readsRest_55 {G : GG} {b : Nat × Nat} {Q : Option VV → Hp → Prop} {v0 s0 : Int} {h : Hp} (k : ((s0 = 0) → Q (some (vI 0)) h) ∧ ((¬ (s0 = 0)) → (h v0 (-1) = 11) ∧ Runs G mm_X10_reads [vR v0, vI 2, vI 0, vI 11] h (fun r h' => AW G mm_X10_readsRest b 66 [(0, vR v0)] (r.toList ++ []) h' Q))) : AW G mm_X10_readsRest b 55 [(0, vR v0)] [vI s0] h Q := by
  refine aw_if_eq (tgt := 102) dX10_readsRest_55 (by decide) (fun hc => ?_) (fun hc => ?_)
  · have k := k.1 hc
    refine aw_iconst dX10_readsRest_102 ⟨by decide, by decide⟩ ?_
    exact aw_zret dX10_readsRest_103 rfl (by decide) k
  · have k := k.2 hc
    refine aw_aload_n 0 dX10_readsRest_58 rfl rfl ?_
    refine aw_iconst dX10_readsRest_59 ⟨by decide, by decide⟩ ?_
    refine aw_iconst dX10_readsRest_60 ⟨by decide, by decide⟩ ?_
    refine aw_bipush dX10_readsRest_61 ⟨by decide, by decide⟩ (by decide) ?_
    obtain ⟨o1, k⟩ := k
    refine aw_callV (M' := mm_X10_reads) 10 [vI 2, vI 0, vI 11] [] lk_X10_155 ⟨_, rfl, rfl⟩ dX10_readsRest_63 rfl (Nat.le_of_ble_eq_true rfl) ⟨by decide, by decide, Nat.zero_le _, Nat.zero_le _⟩ o1 ?_
    exact k
set_option maxRecDepth 20000 in
theorem sg_X10_readsRest_122 {G : GG} {b : Nat × Nat} {Q : Option VV → Hp → Prop} {v0 s0 : Int} {h : Hp} (k : ((s0 = 0) → Q (some (vI 0)) h) ∧ ((¬ (s0 = 0)) → (h v0 (-1) = 11) ∧ Runs G mm_X10_reads [vR v0, vI 2, vI 0, vI 9999] h (fun r h' => AW G mm_X10_readsRest b 134 [] (r.toList ++ []) h' Q))) : AW G mm_X10_readsRest b 122 [(0, vR v0)] [vI s0] h Q := by
  refine aw_if_eq (tgt := 141) dX10_readsRest_122 (by decide) (fun hc => ?_) (fun hc => ?_)
  · have k := k.1 hc
    refine aw_iconst dX10_readsRest_141 ⟨by decide, by decide⟩ ?_
    exact aw_zret dX10_readsRest_142 rfl (by decide) k
  · have k := k.2 hc
    refine aw_aload_n 0 dX10_readsRest_125 rfl rfl ?_
    refine aw_iconst dX10_readsRest_126 ⟨by decide, by decide⟩ ?_
    refine aw_iconst dX10_readsRest_127 ⟨by decide, by decide⟩ ?_
    refine aw_sipush dX10_readsRest_128 ⟨by decide, by decide⟩ (by decide) ?_
    obtain ⟨o1, k⟩ := k
    refine aw_callV (M' := mm_X10_reads) 10 [vI 2, vI 0, vI 9999] [] lk_X10_155 ⟨_, rfl, rfl⟩ dX10_readsRest_131 rfl (Nat.le_of_ble_eq_true rfl) ⟨by decide, by decide, Nat.zero_le _, Nat.zero_le _⟩ o1 ?_
    exact k.mono (fun _ _ z => aw_sub [] rfl z)
set_option maxRecDepth 20000 in
theorem sg_X10_readsRest_161 {G : GG} {b : Nat × Nat} {Q : Option VV → Hp → Prop} {s0 : Int} {h : Hp} (k : ((s0 = 0) → Q (some (vI 0)) h) ∧ ((¬ (s0 = 0)) → Q (some (vI 1)) h)) : AW G mm_X10_readsRest b 161 [] [vI s0] h Q := by
  refine aw_if_eq (tgt := 168) dX10_readsRest_161 (by decide) (fun hc => ?_) (fun hc => ?_)
  · have k := k.1 hc
    refine aw_iconst dX10_readsRest_168 ⟨by decide, by decide⟩ ?_
    exact aw_zret dX10_readsRest_169 rfl (by decide) k
  · have k := k.2 hc
    refine aw_iconst dX10_readsRest_164 ⟨by decide, by decide⟩ ?_
    refine aw_goto (tgt := 169) dX10_readsRest_165 (by decide) ?_
    exact aw_zret dX10_readsRest_169 rfl (by decide) k
set_option maxRecDepth 20000 in
theorem sg_X10_readsRest_187 {G : GG} {b : Nat × Nat} {Q : Option VV → Hp → Prop} {v0 s0 : Int} {h : Hp} (k : ((s0 = 0) → Q (some (vI 0)) h) ∧ ((¬ (s0 = 0)) → (h v0 (-1) = 11) ∧ Runs G mm_X10_reads [vR v0, vI 2, vI 0, vI 11] h (fun r h' => AW G mm_X10_readsRest b 198 [] (r.toList ++ []) h' Q))) : AW G mm_X10_readsRest b 187 [(0, vR v0)] [vI s0] h Q := by
  refine aw_if_eq (tgt := 205) dX10_readsRest_187 (by decide) (fun hc => ?_) (fun hc => ?_)
  · have k := k.1 hc
    refine aw_iconst dX10_readsRest_205 ⟨by decide, by decide⟩ ?_
    exact aw_zret dX10_readsRest_206 rfl (by decide) k
  · have k := k.2 hc
    refine aw_aload_n 0 dX10_readsRest_190 rfl rfl ?_
    refine aw_iconst dX10_readsRest_191 ⟨by decide, by decide⟩ ?_
    refine aw_iconst dX10_readsRest_192 ⟨by decide, by decide⟩ ?_
    refine aw_bipush dX10_readsRest_193 ⟨by decide, by decide⟩ (by decide) ?_
    obtain ⟨o1, k⟩ := k
    refine aw_callV (M' := mm_X10_reads) 10 [vI 2, vI 0, vI 11] [] lk_X10_155 ⟨_, rfl, rfl⟩ dX10_readsRest_195 rfl (Nat.le_of_ble_eq_true rfl) ⟨by decide, by decide, Nat.zero_le _, Nat.zero_le _⟩ o1 ?_
    exact k.mono (fun _ _ z => aw_sub [] rfl z)
set_option maxRecDepth 20000 in
theorem sg_X10_readsRest_66 {G : GG} {b : Nat × Nat} {Q : Option VV → Hp → Prop} {v0 s0 : Int} {h : Hp} (k : ((s0 = 0) → Q (some (vI 0)) h) ∧ ((¬ (s0 = 0)) → (h v0 (-1) = 11) ∧ (h (h v0 36) (-1) = 20) ∧ (2 < h (h v0 36) (-2)) ∧ (inI (12 - (h (h v0 36) 2))) ∧ Runs G mm_X10_reads [vR v0, vI 3, vI 1, vI (12 - (h (h v0 36) 2))] h (fun r h' => AW G mm_X10_readsRest b 84 [(0, vR v0)] (r.toList ++ []) h' Q))) : AW G mm_X10_readsRest b 66 [(0, vR v0)] [vI s0] h Q := by
  refine aw_if_eq (tgt := 102) dX10_readsRest_66 (by decide) (fun hc => ?_) (fun hc => ?_)
  · have k := k.1 hc
    refine aw_iconst dX10_readsRest_102 ⟨by decide, by decide⟩ ?_
    exact aw_zret dX10_readsRest_103 rfl (by decide) k
  · have k := k.2 hc
    refine aw_aload_n 0 dX10_readsRest_69 rfl rfl ?_
    refine aw_iconst dX10_readsRest_70 ⟨by decide, by decide⟩ ?_
    refine aw_iconst dX10_readsRest_71 ⟨by decide, by decide⟩ ?_
    refine aw_bipush dX10_readsRest_72 ⟨by decide, by decide⟩ (by decide) ?_
    refine aw_aload_n 0 dX10_readsRest_74 rfl rfl ?_
    obtain ⟨o1, k⟩ := k
    refine aw_getR dX10_readsRest_75 fl_X10_86 rfl o1 (x := (h v0 36)) rfl ?_
    refine aw_iconst dX10_readsRest_78 ⟨by decide, by decide⟩ ?_
    obtain ⟨o2, k⟩ := k
    obtain ⟨o3, k⟩ := k
    refine aw_iald dX10_readsRest_79 o2 (by decide) o3 (x := (h (h v0 36) 2)) rfl ?_
    obtain ⟨o4, k⟩ := k
    refine aw_isub dX10_readsRest_80 o4 ?_
    refine aw_callV (M' := mm_X10_reads) 10 [vI 3, vI 1, vI (12 - (h (h v0 36) 2))] [] lk_X10_155 ⟨_, rfl, rfl⟩ dX10_readsRest_81 rfl (Nat.le_of_ble_eq_true rfl) ⟨by decide, by decide, Nat.zero_le _, Nat.zero_le _⟩ o1 ?_
    exact k
set_option maxRecDepth 20000 in
theorem sg_X10_readsRest_134 {G : GG} {b : Nat × Nat} {Q : Option VV → Hp → Prop} {s0 : Int} {h : Hp} (k : ((s0 = 0) → Q (some (vI 0)) h) ∧ ((¬ (s0 = 0)) → Q (some (vI 1)) h)) : AW G mm_X10_readsRest b 134 [] [vI s0] h Q := by
  refine aw_if_eq (tgt := 141) dX10_readsRest_134 (by decide) (fun hc => ?_) (fun hc => ?_)
  · have k := k.1 hc
    refine aw_iconst dX10_readsRest_141 ⟨by decide, by decide⟩ ?_
    exact aw_zret dX10_readsRest_142 rfl (by decide) k
  · have k := k.2 hc
    refine aw_iconst dX10_readsRest_137 ⟨by decide, by decide⟩ ?_
    refine aw_goto (tgt := 142) dX10_readsRest_138 (by decide) ?_
    exact aw_zret dX10_readsRest_142 rfl (by decide) k
set_option maxRecDepth 20000 in
theorem sg_X10_readsRest_198 {G : GG} {b : Nat × Nat} {Q : Option VV → Hp → Prop} {s0 : Int} {h : Hp} (k : ((s0 = 0) → Q (some (vI 0)) h) ∧ ((¬ (s0 = 0)) → Q (some (vI 1)) h)) : AW G mm_X10_readsRest b 198 [] [vI s0] h Q := by
  refine aw_if_eq (tgt := 205) dX10_readsRest_198 (by decide) (fun hc => ?_) (fun hc => ?_)
  · have k := k.1 hc
    refine aw_iconst dX10_readsRest_205 ⟨by decide, by decide⟩ ?_
    exact aw_zret dX10_readsRest_206 rfl (by decide) k
  · have k := k.2 hc
    refine aw_iconst dX10_readsRest_201 ⟨by decide, by decide⟩ ?_
    refine aw_goto (tgt := 206) dX10_readsRest_202 (by decide) ?_
    exact aw_zret dX10_readsRest_206 rfl (by decide) k
set_option maxRecDepth 20000 in
theorem sg_X10_readsRest_84 {G : GG} {b : Nat × Nat} {Q : Option VV → Hp → Prop} {v0 s0 : Int} {h : Hp} (k : ((s0 = 0) → Q (some (vI 0)) h) ∧ ((¬ (s0 = 0)) → (h v0 (-1) = 11) ∧ Runs G mm_X10_reads [vR v0, vI 4, vI 0, vI 7] h (fun r h' => AW G mm_X10_readsRest b 95 [] (r.toList ++ []) h' Q))) : AW G mm_X10_readsRest b 84 [(0, vR v0)] [vI s0] h Q := by
  refine aw_if_eq (tgt := 102) dX10_readsRest_84 (by decide) (fun hc => ?_) (fun hc => ?_)
  · have k := k.1 hc
    refine aw_iconst dX10_readsRest_102 ⟨by decide, by decide⟩ ?_
    exact aw_zret dX10_readsRest_103 rfl (by decide) k
  · have k := k.2 hc
    refine aw_aload_n 0 dX10_readsRest_87 rfl rfl ?_
    refine aw_iconst dX10_readsRest_88 ⟨by decide, by decide⟩ ?_
    refine aw_iconst dX10_readsRest_89 ⟨by decide, by decide⟩ ?_
    refine aw_bipush dX10_readsRest_90 ⟨by decide, by decide⟩ (by decide) ?_
    obtain ⟨o1, k⟩ := k
    refine aw_callV (M' := mm_X10_reads) 10 [vI 4, vI 0, vI 7] [] lk_X10_155 ⟨_, rfl, rfl⟩ dX10_readsRest_92 rfl (Nat.le_of_ble_eq_true rfl) ⟨by decide, by decide, Nat.zero_le _, Nat.zero_le _⟩ o1 ?_
    exact k.mono (fun _ _ z => aw_sub [] rfl z)
set_option maxRecDepth 20000 in
theorem sg_X10_readsRest_95 {G : GG} {b : Nat × Nat} {Q : Option VV → Hp → Prop} {s0 : Int} {h : Hp} (k : ((s0 = 0) → Q (some (vI 0)) h) ∧ ((¬ (s0 = 0)) → Q (some (vI 1)) h)) : AW G mm_X10_readsRest b 95 [] [vI s0] h Q := by
  refine aw_if_eq (tgt := 102) dX10_readsRest_95 (by decide) (fun hc => ?_) (fun hc => ?_)
  · have k := k.1 hc
    refine aw_iconst dX10_readsRest_102 ⟨by decide, by decide⟩ ?_
    exact aw_zret dX10_readsRest_103 rfl (by decide) k
  · have k := k.2 hc
    refine aw_iconst dX10_readsRest_98 ⟨by decide, by decide⟩ ?_
    refine aw_goto (tgt := 103) dX10_readsRest_99 (by decide) ?_
    exact aw_zret dX10_readsRest_103 rfl (by decide) k
