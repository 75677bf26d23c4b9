/-! printed by writeseg.py: segments of methods -/
set_option maxRecDepth 20000 in
theorem sg_X10_changesMore_0 {G : GG} {b : Nat × Nat} {Q : Option VV → Hp → Prop} {v0 v1 v2 v3 : Int} {h : Hp} (k : (h v0 (-1) = 11) ∧ (inI ((h v0 28) + 1)) ∧ ∀ h1, h1 = wr h v0 28 ((h v0 28) + 1) → (h (h v0 14) (-1) = 20) ∧ (0 ≤ v1) ∧ (v1 < h (h v0 14) (-2)) ∧ ((¬ (h (h v0 14) v1) = 2) → (inI (4 * v1)) ∧ (inI (2 * (h (h v0 14) v1))) ∧ (inI ((4 * v1) + (2 * (h (h v0 14) v1)))) ∧ (h (h v0 15) (-1) = 20) ∧ (0 ≤ ((4 * v1) + (2 * (h (h v0 14) v1)))) ∧ (((4 * v1) + (2 * (h (h v0 14) v1))) < h (h v0 15) (-2)) ∧ ∀ h2, h2 = wr h1 (h v0 15) ((4 * v1) + (2 * (h (h v0 14) v1))) v2 → (inI (2 * (h2 (h v0 14) v1))) ∧ (inI ((4 * v1) + (2 * (h2 (h v0 14) v1)))) ∧ (inI (((4 * v1) + (2 * (h2 (h v0 14) v1))) + 1)) ∧ (0 ≤ (((4 * v1) + (2 * (h2 (h v0 14) v1))) + 1)) ∧ ((((4 * v1) + (2 * (h2 (h v0 14) v1))) + 1) < h (h v0 15) (-2)) ∧ ∀ h3, h3 = wr h2 (h v0 15) (((4 * v1) + (2 * (h2 (h v0 14) v1))) + 1) v3 → (inI ((h3 (h v0 14) v1) + 1)) ∧ ∀ h4, h4 = wr h3 (h v0 14) v1 ((h3 (h v0 14) v1) + 1) → Q none h4) ∧ (((h (h v0 14) v1) = 2) → (inI (4 * v1)) ∧ (inI ((4 * v1) + 2)) ∧ (h (h v0 15) (-1) = 20) ∧ (0 ≤ ((4 * v1) + 2)) ∧ (((4 * v1) + 2) < h (h v0 15) (-2)) ∧ (0 ≤ (4 * v1)) ∧ ((4 * v1) < h (h v0 15) (-2)) ∧ ∀ h2, h2 = wr h1 (h v0 15) (4 * v1) (h (h v0 15) ((4 * v1) + 2)) → (inI ((4 * v1) + 1)) ∧ (inI ((4 * v1) + 3)) ∧ (0 ≤ ((4 * v1) + 3)) ∧ (((4 * v1) + 3) < h (h v0 15) (-2)) ∧ (0 ≤ ((4 * v1) + 1)) ∧ (((4 * v1) + 1) < h (h v0 15) (-2)) ∧ ∀ h3, h3 = wr h2 (h v0 15) ((4 * v1) + 1) (h2 (h v0 15) ((4 * v1) + 3)) → ∀ h4, h4 = wr h3 (h v0 14) v1 1 → (inI ((4 * v1) + (2 * 1))) ∧ (0 ≤ ((4 * v1) + (2 * 1))) ∧ (((4 * v1) + (2 * 1)) < h (h v0 15) (-2)) ∧ ∀ h5, h5 = wr h4 (h v0 15) ((4 * v1) + (2 * 1)) v2 → (inI (2 * (h5 (h v0 14) v1))) ∧ (inI ((4 * v1) + (2 * (h5 (h v0 14) v1)))) ∧ (inI (((4 * v1) + (2 * (h5 (h v0 14) v1))) + 1)) ∧ (0 ≤ (((4 * v1) + (2 * (h5 (h v0 14) v1))) + 1)) ∧ ((((4 * v1) + (2 * (h5 (h v0 14) v1))) + 1) < h (h v0 15) (-2)) ∧ ∀ h6, h6 = wr h5 (h v0 15) (((4 * v1) + (2 * (h5 (h v0 14) v1))) + 1) v3 → (inI ((h6 (h v0 14) v1) + 1)) ∧ ∀ h7, h7 = wr h6 (h v0 14) v1 ((h6 (h v0 14) v1) + 1) → Q none h7)) : AW G mm_X10_changesMore b 0 [(0, vR v0), (1, vI v1), (2, vI v2), (3, vI v3)] [] h Q := by
  refine aw_aload_n 0 dX10_changesMore_0 rfl rfl ?_
  refine aw_dup dX10_changesMore_1 rfl ?_
  obtain ⟨o1, k⟩ := k
  refine aw_getI dX10_changesMore_2 fl_X10_120 rfl o1 (x := (h v0 28)) rfl ?_
  refine aw_iconst dX10_changesMore_5 ⟨by decide, by decide⟩ ?_
  obtain ⟨o2, k⟩ := k
  refine aw_iadd dX10_changesMore_6 o2 ?_
  refine aw_putI dX10_changesMore_7 fl_X10_120 (fun q hq hf => by cases hq; cases hf) rfl rfl o1 ?_
  refine aw_hp (fun h1 e3 => ?_)
  have k := k h1 e3
  refine aw_aload_n 0 dX10_changesMore_10 rfl rfl ?_
  have q4 := sh_w e3 (by decide) o1
  refine aw_getR dX10_changesMore_11 fl_X10_53 rfl q4 (x := (h v0 14)) (rd_k e3 14 (by decide)) ?_
  refine aw_iload_n 1 dX10_changesMore_14 rfl rfl ?_
  obtain ⟨o5, k⟩ := k
  obtain ⟨o6, k⟩ := k
  obtain ⟨o7, k⟩ := k
  have q8 := sh_w e3 (by decide) o5
  refine aw_iald dX10_changesMore_15 q8 o6 (lt_l (ln_w e3 (h v0 14) (by decide)) o7) (x := (h (h v0 14) v1)) (rd_a e3 (h v0 14) v1 (ne_sh o1 o5 (by decide))) ?_
  refine aw_iconst dX10_changesMore_16 ⟨by decide, by decide⟩ ?_
  refine aw_icmp_ne (tgt := 65) dX10_changesMore_17 (by decide) (fun hc => ?_) (fun hc => ?_)
  · have k := k.1 hc
    refine aw_aload_n 0 dX10_changesMore_65 rfl rfl ?_
    refine aw_getR dX10_changesMore_66 fl_X10_56 rfl q4 (x := (h v0 15)) (rd_k e3 15 (by decide)) ?_
    refine aw_iconst dX10_changesMore_69 ⟨by decide, by decide⟩ ?_
    refine aw_iload_n 1 dX10_changesMore_70 rfl rfl ?_
    obtain ⟨o9, k⟩ := k
    refine aw_imul dX10_changesMore_71 o9 ?_
    refine aw_iconst dX10_changesMore_72 ⟨by decide, by decide⟩ ?_
    refine aw_aload_n 0 dX10_changesMore_73 rfl rfl ?_
    refine aw_getR dX10_changesMore_74 fl_X10_53 rfl q4 (x := (h v0 14)) (rd_k e3 14 (by decide)) ?_
    refine aw_iload_n 1 dX10_changesMore_77 rfl rfl ?_
    refine aw_iald dX10_changesMore_78 q8 o6 (lt_l (ln_w e3 (h v0 14) (by decide)) o7) (x := (h (h v0 14) v1)) (rd_a e3 (h v0 14) v1 (ne_sh o1 o5 (by decide))) ?_
    obtain ⟨o10, k⟩ := k
    refine aw_imul dX10_changesMore_79 o10 ?_
    obtain ⟨o11, k⟩ := k
    refine aw_iadd dX10_changesMore_80 o11 ?_
    refine aw_iload_n 2 dX10_changesMore_81 rfl rfl ?_
    obtain ⟨o12, k⟩ := k
    obtain ⟨o13, k⟩ := k
    obtain ⟨o14, k⟩ := k
    have q15 := sh_w e3 (by decide) o12
    refine aw_iast dX10_changesMore_82 q15 o13 (lt_l (ln_w e3 (h v0 15) (by decide)) o14) ?_
    refine aw_hp (fun h2 e16 => ?_)
    have k := k h2 e16
    refine aw_aload_n 0 dX10_changesMore_83 rfl rfl ?_
    have q17 := sh_w e16 o13 q4
    refine aw_getR dX10_changesMore_84 fl_X10_56 rfl q17 (x := (h v0 15)) ((rd_a e16 v0 15 (ne_sh q15 q4 (by decide))).trans (rd_k e3 15 (by decide))) ?_
    refine aw_iconst dX10_changesMore_87 ⟨by decide, by decide⟩ ?_
    refine aw_iload_n 1 dX10_changesMore_88 rfl rfl ?_
    refine aw_imul dX10_changesMore_89 o9 ?_
    refine aw_iconst dX10_changesMore_90 ⟨by decide, by decide⟩ ?_
    refine aw_aload_n 0 dX10_changesMore_91 rfl rfl ?_
    refine aw_getR dX10_changesMore_92 fl_X10_53 rfl q17 (x := (h v0 14)) ((rd_a e16 v0 14 (ne_sh q15 q4 (by decide))).trans (rd_k e3 14 (by decide))) ?_
    refine aw_iload_n 1 dX10_changesMore_95 rfl rfl ?_
    have q18 := sh_w e16 o13 q8
    refine aw_iald dX10_changesMore_96 q18 o6 (lt_l ((ln_w e16 (h v0 14) o13).trans (ln_w e3 (h v0 14) (by decide))) o7) (x := (h2 (h v0 14) v1)) rfl ?_
    obtain ⟨o19, k⟩ := k
    refine aw_imul dX10_changesMore_97 o19 ?_
    obtain ⟨o20, k⟩ := k
    refine aw_iadd dX10_changesMore_98 o20 ?_
    refine aw_iconst dX10_changesMore_99 ⟨by decide, by decide⟩ ?_
    obtain ⟨o21, k⟩ := k
    refine aw_iadd dX10_changesMore_100 o21 ?_
    refine aw_iload_n 3 dX10_changesMore_101 rfl rfl ?_
    obtain ⟨o22, k⟩ := k
    obtain ⟨o23, k⟩ := k
    have q24 := sh_w e16 o13 q15
    refine aw_iast dX10_changesMore_102 q24 o22 (lt_l ((ln_w e16 (h v0 15) o13).trans (ln_w e3 (h v0 15) (by decide))) o23) ?_
    refine aw_hp (fun h3 e25 => ?_)
    have k := k h3 e25
    refine aw_aload_n 0 dX10_changesMore_103 rfl rfl ?_
    have q26 := sh_w e25 o22 q17
    refine aw_getR dX10_changesMore_104 fl_X10_53 rfl q26 (x := (h v0 14)) ((rd_a e25 v0 14 (ne_sh q24 q17 (by decide))).trans ((rd_a e16 v0 14 (ne_sh q15 q4 (by decide))).trans (rd_k e3 14 (by decide)))) ?_
    refine aw_iload_n 1 dX10_changesMore_107 rfl rfl ?_
    refine aw_dup2 dX10_changesMore_108 rfl rfl ?_
    have q27 := sh_w e25 o22 q18
    refine aw_iald dX10_changesMore_109 q27 o6 (lt_l ((ln_w e25 (h v0 14) o22).trans ((ln_w e16 (h v0 14) o13).trans (ln_w e3 (h v0 14) (by decide)))) o7) (x := (h3 (h v0 14) v1)) rfl ?_
    refine aw_iconst dX10_changesMore_110 ⟨by decide, by decide⟩ ?_
    obtain ⟨o28, k⟩ := k
    refine aw_iadd dX10_changesMore_111 o28 ?_
    refine aw_iast dX10_changesMore_112 q27 o6 (lt_l ((ln_w e25 (h v0 14) o22).trans ((ln_w e16 (h v0 14) o13).trans (ln_w e3 (h v0 14) (by decide)))) o7) ?_
    refine aw_hp (fun h4 e29 => ?_)
    have k := k h4 e29
    exact aw_vret dX10_changesMore_113 rfl k
  · have k := k.2 hc
    refine aw_aload_n 0 dX10_changesMore_20 rfl rfl ?_
    refine aw_getR dX10_changesMore_21 fl_X10_56 rfl q4 (x := (h v0 15)) (rd_k e3 15 (by decide)) ?_
    refine aw_iconst dX10_changesMore_24 ⟨by decide, by decide⟩ ?_
    refine aw_iload_n 1 dX10_changesMore_25 rfl rfl ?_
    obtain ⟨o30, k⟩ := k
    refine aw_imul dX10_changesMore_26 o30 ?_
    refine aw_aload_n 0 dX10_changesMore_27 rfl rfl ?_
    refine aw_getR dX10_changesMore_28 fl_X10_56 rfl q4 (x := (h v0 15)) (rd_k e3 15 (by decide)) ?_
    refine aw_iconst dX10_changesMore_31 ⟨by decide, by decide⟩ ?_
    refine aw_iload_n 1 dX10_changesMore_32 rfl rfl ?_
    refine aw_imul dX10_changesMore_33 o30 ?_
    refine aw_iconst dX10_changesMore_34 ⟨by decide, by decide⟩ ?_
    obtain ⟨o31, k⟩ := k
    refine aw_iadd dX10_changesMore_35 o31 ?_
    obtain ⟨o32, k⟩ := k
    obtain ⟨o33, k⟩ := k
    obtain ⟨o34, k⟩ := k
    have q35 := sh_w e3 (by decide) o32
    refine aw_iald dX10_changesMore_36 q35 o33 (lt_l (ln_w e3 (h v0 15) (by decide)) o34) (x := (h (h v0 15) ((4 * v1) + 2))) (rd_a e3 (h v0 15) ((4 * v1) + 2) (ne_sh o1 o32 (by decide))) ?_
    obtain ⟨o36, k⟩ := k
    obtain ⟨o37, k⟩ := k
    refine aw_iast dX10_changesMore_37 q35 o36 (lt_l (ln_w e3 (h v0 15) (by decide)) o37) ?_
    refine aw_hp (fun h2 e38 => ?_)
    have k := k h2 e38
    refine aw_aload_n 0 dX10_changesMore_38 rfl rfl ?_
    have q39 := sh_w e38 o36 q4
    refine aw_getR dX10_changesMore_39 fl_X10_56 rfl q39 (x := (h v0 15)) ((rd_a e38 v0 15 (ne_sh q35 q4 (by decide))).trans (rd_k e3 15 (by decide))) ?_
    refine aw_iconst dX10_changesMore_42 ⟨by decide, by decide⟩ ?_
    refine aw_iload_n 1 dX10_changesMore_43 rfl rfl ?_
    refine aw_imul dX10_changesMore_44 o30 ?_
    refine aw_iconst dX10_changesMore_45 ⟨by decide, by decide⟩ ?_
    obtain ⟨o40, k⟩ := k
    refine aw_iadd dX10_changesMore_46 o40 ?_
    refine aw_aload_n 0 dX10_changesMore_47 rfl rfl ?_
    refine aw_getR dX10_changesMore_48 fl_X10_56 rfl q39 (x := (h v0 15)) ((rd_a e38 v0 15 (ne_sh q35 q4 (by decide))).trans (rd_k e3 15 (by decide))) ?_
    refine aw_iconst dX10_changesMore_51 ⟨by decide, by decide⟩ ?_
    refine aw_iload_n 1 dX10_changesMore_52 rfl rfl ?_
    refine aw_imul dX10_changesMore_53 o30 ?_
    refine aw_iconst dX10_changesMore_54 ⟨by decide, by decide⟩ ?_
    obtain ⟨o41, k⟩ := k
    refine aw_iadd dX10_changesMore_55 o41 ?_
    obtain ⟨o42, k⟩ := k
    obtain ⟨o43, k⟩ := k
    have q44 := sh_w e38 o36 q35
    refine aw_iald dX10_changesMore_56 q44 o42 (lt_l ((ln_w e38 (h v0 15) o36).trans (ln_w e3 (h v0 15) (by decide))) o43) (x := (h2 (h v0 15) ((4 * v1) + 3))) rfl ?_
    obtain ⟨o45, k⟩ := k
    obtain ⟨o46, k⟩ := k
    refine aw_iast dX10_changesMore_57 q44 o45 (lt_l ((ln_w e38 (h v0 15) o36).trans (ln_w e3 (h v0 15) (by decide))) o46) ?_
    refine aw_hp (fun h3 e47 => ?_)
    have k := k h3 e47
    refine aw_aload_n 0 dX10_changesMore_58 rfl rfl ?_
    have q48 := sh_w e47 o45 q39
    refine aw_getR dX10_changesMore_59 fl_X10_53 rfl q48 (x := (h v0 14)) ((rd_a e47 v0 14 (ne_sh q44 q39 (by decide))).trans ((rd_a e38 v0 14 (ne_sh q35 q4 (by decide))).trans (rd_k e3 14 (by decide)))) ?_
    refine aw_iload_n 1 dX10_changesMore_62 rfl rfl ?_
    refine aw_iconst dX10_changesMore_63 ⟨by decide, by decide⟩ ?_
    have q49 := sh_w e38 o36 q8
    have q50 := sh_w e47 o45 q49
    refine aw_iast dX10_changesMore_64 q50 o6 (lt_l ((ln_w e47 (h v0 14) o45).trans ((ln_w e38 (h v0 14) o36).trans (ln_w e3 (h v0 14) (by decide)))) o7) ?_
    refine aw_hp (fun h4 e51 => ?_)
    have k := k h4 e51
    refine aw_aload_n 0 dX10_changesMore_65 rfl rfl ?_
    have q52 := sh_w e51 o6 q48
    refine aw_getR dX10_changesMore_66 fl_X10_56 rfl q52 (x := (h v0 15)) ((rd_a e51 v0 15 (ne_sh q50 q48 (by decide))).trans ((rd_a e47 v0 15 (ne_sh q44 q39 (by decide))).trans ((rd_a e38 v0 15 (ne_sh q35 q4 (by decide))).trans (rd_k e3 15 (by decide))))) ?_
    refine aw_iconst dX10_changesMore_69 ⟨by decide, by decide⟩ ?_
    refine aw_iload_n 1 dX10_changesMore_70 rfl rfl ?_
    refine aw_imul dX10_changesMore_71 o30 ?_
    refine aw_iconst dX10_changesMore_72 ⟨by decide, by decide⟩ ?_
    refine aw_aload_n 0 dX10_changesMore_73 rfl rfl ?_
    refine aw_getR dX10_changesMore_74 fl_X10_53 rfl q52 (x := (h v0 14)) ((rd_a e51 v0 14 (ne_sh q50 q48 (by decide))).trans ((rd_a e47 v0 14 (ne_sh q44 q39 (by decide))).trans ((rd_a e38 v0 14 (ne_sh q35 q4 (by decide))).trans (rd_k e3 14 (by decide))))) ?_
    refine aw_iload_n 1 dX10_changesMore_77 rfl rfl ?_
    have q53 := sh_w e51 o6 q50
    refine aw_iald dX10_changesMore_78 q53 o6 (lt_l ((ln_w e51 (h v0 14) o6).trans ((ln_w e47 (h v0 14) o45).trans ((ln_w e38 (h v0 14) o36).trans (ln_w e3 (h v0 14) (by decide))))) o7) (x := 1) (rd_e e51) ?_
    refine aw_imul dX10_changesMore_79 ⟨by decide, by decide⟩ ?_
    obtain ⟨o54, k⟩ := k
    refine aw_iadd dX10_changesMore_80 o54 ?_
    refine aw_iload_n 2 dX10_changesMore_81 rfl rfl ?_
    obtain ⟨o55, k⟩ := k
    obtain ⟨o56, k⟩ := k
    have q57 := sh_w e47 o45 q44
    have q58 := sh_w e51 o6 q57
    refine aw_iast dX10_changesMore_82 q58 o55 (lt_l ((ln_w e51 (h v0 15) o6).trans ((ln_w e47 (h v0 15) o45).trans ((ln_w e38 (h v0 15) o36).trans (ln_w e3 (h v0 15) (by decide))))) o56) ?_
    refine aw_hp (fun h5 e59 => ?_)
    have k := k h5 e59
    refine aw_aload_n 0 dX10_changesMore_83 rfl rfl ?_
    have q60 := sh_w e59 o55 q52
    refine aw_getR dX10_changesMore_84 fl_X10_56 rfl q60 (x := (h v0 15)) ((rd_a e59 v0 15 (ne_sh q58 q52 (by decide))).trans ((rd_a e51 v0 15 (ne_sh q50 q48 (by decide))).trans ((rd_a e47 v0 15 (ne_sh q44 q39 (by decide))).trans ((rd_a e38 v0 15 (ne_sh q35 q4 (by decide))).trans (rd_k e3 15 (by decide)))))) ?_
    refine aw_iconst dX10_changesMore_87 ⟨by decide, by decide⟩ ?_
    refine aw_iload_n 1 dX10_changesMore_88 rfl rfl ?_
    refine aw_imul dX10_changesMore_89 o30 ?_
    refine aw_iconst dX10_changesMore_90 ⟨by decide, by decide⟩ ?_
    refine aw_aload_n 0 dX10_changesMore_91 rfl rfl ?_
    refine aw_getR dX10_changesMore_92 fl_X10_53 rfl q60 (x := (h v0 14)) ((rd_a e59 v0 14 (ne_sh q58 q52 (by decide))).trans ((rd_a e51 v0 14 (ne_sh q50 q48 (by decide))).trans ((rd_a e47 v0 14 (ne_sh q44 q39 (by decide))).trans ((rd_a e38 v0 14 (ne_sh q35 q4 (by decide))).trans (rd_k e3 14 (by decide)))))) ?_
    refine aw_iload_n 1 dX10_changesMore_95 rfl rfl ?_
    have q61 := sh_w e59 o55 q53
    refine aw_iald dX10_changesMore_96 q61 o6 (lt_l ((ln_w e59 (h v0 14) o55).trans ((ln_w e51 (h v0 14) o6).trans ((ln_w e47 (h v0 14) o45).trans ((ln_w e38 (h v0 14) o36).trans (ln_w e3 (h v0 14) (by decide)))))) o7) (x := (h5 (h v0 14) v1)) rfl ?_
    obtain ⟨o62, k⟩ := k
    refine aw_imul dX10_changesMore_97 o62 ?_
    obtain ⟨o63, k⟩ := k
    refine aw_iadd dX10_changesMore_98 o63 ?_
    refine aw_iconst dX10_changesMore_99 ⟨by decide, by decide⟩ ?_
    obtain ⟨o64, k⟩ := k
    refine aw_iadd dX10_changesMore_100 o64 ?_
    refine aw_iload_n 3 dX10_changesMore_101 rfl rfl ?_
    obtain ⟨o65, k⟩ := k
    obtain ⟨o66, k⟩ := k
    have q67 := sh_w e59 o55 q58
    refine aw_iast dX10_changesMore_102 q67 o65 (lt_l ((ln_w e59 (h v0 15) o55).trans ((ln_w e51 (h v0 15) o6).trans ((ln_w e47 (h v0 15) o45).trans ((ln_w e38 (h v0 15) o36).trans (ln_w e3 (h v0 15) (by decide)))))) o66) ?_
    refine aw_hp (fun h6 e68 => ?_)
    have k := k h6 e68
    refine aw_aload_n 0 dX10_changesMore_103 rfl rfl ?_
    have q69 := sh_w e68 o65 q60
    refine aw_getR dX10_changesMore_104 fl_X10_53 rfl q69 (x := (h v0 14)) ((rd_a e68 v0 14 (ne_sh q67 q60 (by decide))).trans ((rd_a e59 v0 14 (ne_sh q58 q52 (by decide))).trans ((rd_a e51 v0 14 (ne_sh q50 q48 (by decide))).trans ((rd_a e47 v0 14 (ne_sh q44 q39 (by decide))).trans ((rd_a e38 v0 14 (ne_sh q35 q4 (by decide))).trans (rd_k e3 14 (by decide))))))) ?_
    refine aw_iload_n 1 dX10_changesMore_107 rfl rfl ?_
    refine aw_dup2 dX10_changesMore_108 rfl rfl ?_
    have q70 := sh_w e68 o65 q61
    refine aw_iald dX10_changesMore_109 q70 o6 (lt_l ((ln_w e68 (h v0 14) o65).trans ((ln_w e59 (h v0 14) o55).trans ((ln_w e51 (h v0 14) o6).trans ((ln_w e47 (h v0 14) o45).trans ((ln_w e38 (h v0 14) o36).trans (ln_w e3 (h v0 14) (by decide))))))) o7) (x := (h6 (h v0 14) v1)) rfl ?_
    refine aw_iconst dX10_changesMore_110 ⟨by decide, by decide⟩ ?_
    obtain ⟨o71, k⟩ := k
    refine aw_iadd dX10_changesMore_111 o71 ?_
    refine aw_iast dX10_changesMore_112 q70 o6 (lt_l ((ln_w e68 (h v0 14) o65).trans ((ln_w e59 (h v0 14) o55).trans ((ln_w e51 (h v0 14) o6).trans ((ln_w e47 (h v0 14) o45).trans ((ln_w e38 (h v0 14) o36).trans (ln_w e3 (h v0 14) (by decide))))))) o7) ?_
    refine aw_hp (fun h7 e72 => ?_)
    have k := k h7 e72
    exact aw_vret dX10_changesMore_113 rfl k
theorem rn_X10_changesMore {G : GG} {Q : Option VV → Hp → Prop} {v0 v1 v2 v3 : Int} {h : Hp} (k : (h v0 (-1) = 11) ∧ (inI ((h v0 28) + 1)) ∧ ∀ h1, h1 = wr h v0 28 ((h v0 28) + 1) → (h (h v0 14) (-1) = 20) ∧ (0 ≤ v1) ∧ (v1 < h (h v0 14) (-2)) ∧ ((¬ (h (h v0 14) v1) = 2) → (inI (4 * v1)) ∧ (inI (2 * (h (h v0 14) v1))) ∧ (inI ((4 * v1) + (2 * (h (h v0 14) v1)))) ∧ (h (h v0 15) (-1) = 20) ∧ (0 ≤ ((4 * v1) + (2 * (h (h v0 14) v1)))) ∧ (((4 * v1) + (2 * (h (h v0 14) v1))) < h (h v0 15) (-2)) ∧ ∀ h2, h2 = wr h1 (h v0 15) ((4 * v1) + (2 * (h (h v0 14) v1))) v2 → (inI (2 * (h2 (h v0 14) v1))) ∧ (inI ((4 * v1) + (2 * (h2 (h v0 14) v1)))) ∧ (inI (((4 * v1) + (2 * (h2 (h v0 14) v1))) + 1)) ∧ (0 ≤ (((4 * v1) + (2 * (h2 (h v0 14) v1))) + 1)) ∧ ((((4 * v1) + (2 * (h2 (h v0 14) v1))) + 1) < h (h v0 15) (-2)) ∧ ∀ h3, h3 = wr h2 (h v0 15) (((4 * v1) + (2 * (h2 (h v0 14) v1))) + 1) v3 → (inI ((h3 (h v0 14) v1) + 1)) ∧ ∀ h4, h4 = wr h3 (h v0 14) v1 ((h3 (h v0 14) v1) + 1) → Q none h4) ∧ (((h (h v0 14) v1) = 2) → (inI (4 * v1)) ∧ (inI ((4 * v1) + 2)) ∧ (h (h v0 15) (-1) = 20) ∧ (0 ≤ ((4 * v1) + 2)) ∧ (((4 * v1) + 2) < h (h v0 15) (-2)) ∧ (0 ≤ (4 * v1)) ∧ ((4 * v1) < h (h v0 15) (-2)) ∧ ∀ h2, h2 = wr h1 (h v0 15) (4 * v1) (h (h v0 15) ((4 * v1) + 2)) → (inI ((4 * v1) + 1)) ∧ (inI ((4 * v1) + 3)) ∧ (0 ≤ ((4 * v1) + 3)) ∧ (((4 * v1) + 3) < h (h v0 15) (-2)) ∧ (0 ≤ ((4 * v1) + 1)) ∧ (((4 * v1) + 1) < h (h v0 15) (-2)) ∧ ∀ h3, h3 = wr h2 (h v0 15) ((4 * v1) + 1) (h2 (h v0 15) ((4 * v1) + 3)) → ∀ h4, h4 = wr h3 (h v0 14) v1 1 → (inI ((4 * v1) + (2 * 1))) ∧ (0 ≤ ((4 * v1) + (2 * 1))) ∧ (((4 * v1) + (2 * 1)) < h (h v0 15) (-2)) ∧ ∀ h5, h5 = wr h4 (h v0 15) ((4 * v1) + (2 * 1)) v2 → (inI (2 * (h5 (h v0 14) v1))) ∧ (inI ((4 * v1) + (2 * (h5 (h v0 14) v1)))) ∧ (inI (((4 * v1) + (2 * (h5 (h v0 14) v1))) + 1)) ∧ (0 ≤ (((4 * v1) + (2 * (h5 (h v0 14) v1))) + 1)) ∧ ((((4 * v1) + (2 * (h5 (h v0 14) v1))) + 1) < h (h v0 15) (-2)) ∧ ∀ h6, h6 = wr h5 (h v0 15) (((4 * v1) + (2 * (h5 (h v0 14) v1))) + 1) v3 → (inI ((h6 (h v0 14) v1) + 1)) ∧ ∀ h7, h7 = wr h6 (h v0 14) v1 ((h6 (h v0 14) v1) + 1) → Q none h7)) : Runs G mm_X10_changesMore [vR v0, vI v1, vI v2, vI v3] h Q := Runs.of (by decide +kernel) (Nat.le_of_ble_eq_true rfl) (sg_X10_changesMore_0 (b := (0, 0)) k)
set_option maxRecDepth 20000 in
theorem sg_X10_copyPacket_0 {G : GG} {b : Nat × Nat} {Q : Option VV → Hp → Prop} {v0 v1 v2 : Int} {h : Hp} (k : AW G mm_X10_copyPacket b 2 [(0, vR v0), (1, vI v1), (2, vI v2), (3, vI 0)] [] h Q) : AW G mm_X10_copyPacket b 0 [(0, vR v0), (1, vI v1), (2, vI v2)] [] h Q := by
  refine aw_iconst dX10_copyPacket_0 ⟨by decide, by decide⟩ ?_
  refine aw_istore_n dX10_copyPacket_1 rfl (by decide) ?_
  exact aw_sub [1, 2, 3, 0] rfl k
theorem rn_X10_copyPacket {G : GG} {Q : Option VV → Hp → Prop} {v0 v1 v2 : Int} {h : Hp} (k : AW G mm_X10_copyPacket (0, 0) 2 [(0, vR v0), (1, vI v1), (2, vI v2), (3, vI 0)] [] h Q) : Runs G mm_X10_copyPacket [vR v0, vI v1, vI v2] h Q := Runs.of (by decide +kernel) (Nat.le_of_ble_eq_true rfl) (sg_X10_copyPacket_0 (b := (0, 0)) k)
set_option maxRecDepth 20000 in
theorem sg_X10_copyPacket_2 {G : GG} {b : Nat × Nat} {Q : Option VV → Hp → Prop} {v0 v1 v2 v3 : Int} {h : Hp} (k : ((11 ≤ v3) → Q none h) ∧ ((¬ (11 ≤ v3)) → (h v0 (-1) = 11) ∧ (inI (11 * v2)) ∧ (inI ((11 * v2) + v3)) ∧ (inI (11 * v1)) ∧ (inI ((11 * v1) + v3)) ∧ (h (h v0 20) (-1) = 20) ∧ (0 ≤ ((11 * v1) + v3)) ∧ (((11 * v1) + v3) < h (h v0 20) (-2)) ∧ (0 ≤ ((11 * v2) + v3)) ∧ (((11 * v2) + v3) < h (h v0 20) (-2)) ∧ ∀ h1, h1 = wr h (h v0 20) ((11 * v2) + v3) (h (h v0 20) ((11 * v1) + v3)) → (inI (v3 + 1)) ∧ AW G mm_X10_copyPacket b 2 [(0, vR v0), (1, vI v1), (2, vI v2), (3, vI (v3 + 1))] [] h1 Q)) : AW G mm_X10_copyPacket b 2 [(0, vR v0), (1, vI v1), (2, vI v2), (3, vI v3)] [] h Q := by
  refine aw_iload_n 3 dX10_copyPacket_2 rfl rfl ?_
  refine aw_bipush dX10_copyPacket_3 ⟨by decide, by decide⟩ (by decide) ?_
  refine aw_icmp_ge (tgt := 36) dX10_copyPacket_5 (by decide) (fun hc => ?_) (fun hc => ?_)
  · have k := k.1 hc
    exact aw_vret dX10_copyPacket_36 rfl k
  · have k := k.2 hc
    refine aw_aload_n 0 dX10_copyPacket_8 rfl rfl ?_
    obtain ⟨o1, k⟩ := k
    refine aw_getR dX10_copyPacket_9 fl_X10_68 rfl o1 (x := (h v0 20)) rfl ?_
    refine aw_bipush dX10_copyPacket_12 ⟨by decide, by decide⟩ (by decide) ?_
    refine aw_iload_n 2 dX10_copyPacket_14 rfl rfl ?_
    obtain ⟨o2, k⟩ := k
    refine aw_imul dX10_copyPacket_15 o2 ?_
    refine aw_iload_n 3 dX10_copyPacket_16 rfl rfl ?_
    obtain ⟨o3, k⟩ := k
    refine aw_iadd dX10_copyPacket_17 o3 ?_
    refine aw_aload_n 0 dX10_copyPacket_18 rfl rfl ?_
    refine aw_getR dX10_copyPacket_19 fl_X10_68 rfl o1 (x := (h v0 20)) rfl ?_
    refine aw_bipush dX10_copyPacket_22 ⟨by decide, by decide⟩ (by decide) ?_
    refine aw_iload_n 1 dX10_copyPacket_24 rfl rfl ?_
    obtain ⟨o4, k⟩ := k
    refine aw_imul dX10_copyPacket_25 o4 ?_
    refine aw_iload_n 3 dX10_copyPacket_26 rfl rfl ?_
    obtain ⟨o5, k⟩ := k
    refine aw_iadd dX10_copyPacket_27 o5 ?_
    obtain ⟨o6, k⟩ := k
    obtain ⟨o7, k⟩ := k
    obtain ⟨o8, k⟩ := k
    refine aw_iald dX10_copyPacket_28 o6 o7 o8 (x := (h (h v0 20) ((11 * v1) + v3))) rfl ?_
    obtain ⟨o9, k⟩ := k
    obtain ⟨o10, k⟩ := k
    refine aw_iast dX10_copyPacket_29 o6 o9 o10 ?_
    refine aw_hp (fun h1 e11 => ?_)
    have k := k h1 e11
    obtain ⟨o12, k⟩ := k
    refine aw_iinc 3 dX10_copyPacket_30 rfl o12 (by decide) ?_
    refine aw_goto (tgt := 2) dX10_copyPacket_33 (by decide) ?_
    exact aw_sub [1, 2, 3, 0] rfl k
set_option maxRecDepth 20000 in
theorem sg_X10_count_0 {G : GG} {b : Nat × Nat} {Q : Option VV → Hp → Prop} {v0 v1 : Int} {h : Hp} (k : ((v1 = 0) → (h v0 (-1) = 11) ∧ Q (some (vI (h v0 21))) h) ∧ ((v1 = 1) → (h v0 (-1) = 11) ∧ Q (some (vI (h v0 19))) h) ∧ ((v1 = 2) → (h v0 (-1) = 11) ∧ (inI (v1 - 2)) ∧ (h (h v0 25) (-1) = 20) ∧ (0 ≤ (v1 - 2)) ∧ ((v1 - 2) < h (h v0 25) (-2)) ∧ (h (h v0 24) (-1) = 20) ∧ ((v1 - 2) < h (h v0 24) (-2)) ∧ (inI ((h (h v0 25) (v1 - 2)) - (h (h v0 24) (v1 - 2)))) ∧ Q (some (vI ((h (h v0 25) (v1 - 2)) - (h (h v0 24) (v1 - 2))))) h) ∧ ((v1 = 3) → (h v0 (-1) = 11) ∧ (inI (v1 - 2)) ∧ (h (h v0 25) (-1) = 20) ∧ (0 ≤ (v1 - 2)) ∧ ((v1 - 2) < h (h v0 25) (-2)) ∧ (h (h v0 24) (-1) = 20) ∧ ((v1 - 2) < h (h v0 24) (-2)) ∧ (inI ((h (h v0 25) (v1 - 2)) - (h (h v0 24) (v1 - 2)))) ∧ Q (some (vI ((h (h v0 25) (v1 - 2)) - (h (h v0 24) (v1 - 2))))) h) ∧ ((v1 = 4) → (h v0 (-1) = 11) ∧ Runs G mm_X10_readyEnds [vR v0] h (fun r h' => AW G mm_X10_count b 84 [] (r.toList ++ []) h' Q)) ∧ ((v1 = 5) → (h v0 (-1) = 11) ∧ Runs G mm_X10_allCells [vR v0] h (fun r h' => AW G mm_X10_count b 89 [] (r.toList ++ []) h' Q)) ∧ ((v1 = 6) → (h v0 (-1) = 11) ∧ Q (some (vI (h v0 28))) h) ∧ ((v1 = 7) → (h v0 (-1) = 11) ∧ Q (some (vI (h v0 31))) h) ∧ ((v1 = 8) → (h v0 (-1) = 11) ∧ Q (some (vI (h v0 29))) h) ∧ ((v1 < 0 ∨ 8 < v1) → Q (some (vI (-1002))) h)) : AW G mm_X10_count b 0 [(0, vR v0), (1, vI v1)] [] h Q := by
  refine aw_iload_n 1 dX10_count_0 rfl rfl ?_
  rcases (show v1 = 0 ∨ v1 = 1 ∨ v1 = 2 ∨ v1 = 3 ∨ v1 = 4 ∨ v1 = 5 ∨ v1 = 6 ∨ v1 = 7 ∨ v1 = 8 ∨ (v1 < 0 ∨ 8 < v1) by omega) with hc | hc | hc | hc | hc | hc | hc | hc | hc | hc
  · have k := k.1 hc
    refine aw_tableIn (x := v1) (tgt := 52) dX10_count_1 (by omega) (by omega) (by rw [hc]; rfl) (by decide) ?_
    refine aw_aload_n 0 dX10_count_52 rfl rfl ?_
    obtain ⟨o1, k⟩ := k
    refine aw_getI dX10_count_53 fl_X10_113 rfl o1 (x := (h v0 21)) rfl ?_
    exact aw_iret dX10_count_56 rfl k
  · have k := k.2.1 hc
    refine aw_tableIn (x := v1) (tgt := 57) dX10_count_1 (by omega) (by omega) (by rw [hc]; rfl) (by decide) ?_
    refine aw_aload_n 0 dX10_count_57 rfl rfl ?_
    obtain ⟨o2, k⟩ := k
    refine aw_getI dX10_count_58 fl_X10_109 rfl o2 (x := (h v0 19)) rfl ?_
    exact aw_iret dX10_count_61 rfl k
  · have k := k.2.2.1 hc
    refine aw_tableIn (x := v1) (tgt := 62) dX10_count_1 (by omega) (by omega) (by rw [hc]; rfl) (by decide) ?_
    refine aw_aload_n 0 dX10_count_62 rfl rfl ?_
    obtain ⟨o3, k⟩ := k
    refine aw_getR dX10_count_63 fl_X10_77 rfl o3 (x := (h v0 25)) rfl ?_
    refine aw_iload_n 1 dX10_count_66 rfl rfl ?_
    refine aw_iconst dX10_count_67 ⟨by decide, by decide⟩ ?_
    obtain ⟨o4, k⟩ := k
    refine aw_isub dX10_count_68 o4 ?_
    obtain ⟨o5, k⟩ := k
    obtain ⟨o6, k⟩ := k
    obtain ⟨o7, k⟩ := k
    refine aw_iald dX10_count_69 o5 o6 o7 (x := (h (h v0 25) (v1 - 2))) rfl ?_
    refine aw_aload_n 0 dX10_count_70 rfl rfl ?_
    refine aw_getR dX10_count_71 fl_X10_74 rfl o3 (x := (h v0 24)) rfl ?_
    refine aw_iload_n 1 dX10_count_74 rfl rfl ?_
    refine aw_iconst dX10_count_75 ⟨by decide, by decide⟩ ?_
    refine aw_isub dX10_count_76 o4 ?_
    obtain ⟨o8, k⟩ := k
    obtain ⟨o9, k⟩ := k
    refine aw_iald dX10_count_77 o8 o6 o9 (x := (h (h v0 24) (v1 - 2))) rfl ?_
    obtain ⟨o10, k⟩ := k
    refine aw_isub dX10_count_78 o10 ?_
    exact aw_iret dX10_count_79 rfl k
  · have k := k.2.2.2.1 hc
    refine aw_tableIn (x := v1) (tgt := 62) dX10_count_1 (by omega) (by omega) (by rw [hc]; rfl) (by decide) ?_
    refine aw_aload_n 0 dX10_count_62 rfl rfl ?_
    obtain ⟨o11, k⟩ := k
    refine aw_getR dX10_count_63 fl_X10_77 rfl o11 (x := (h v0 25)) rfl ?_
    refine aw_iload_n 1 dX10_count_66 rfl rfl ?_
    refine aw_iconst dX10_count_67 ⟨by decide, by decide⟩ ?_
    obtain ⟨o12, k⟩ := k
    refine aw_isub dX10_count_68 o12 ?_
    obtain ⟨o13, k⟩ := k
    obtain ⟨o14, k⟩ := k
    obtain ⟨o15, k⟩ := k
    refine aw_iald dX10_count_69 o13 o14 o15 (x := (h (h v0 25) (v1 - 2))) rfl ?_
    refine aw_aload_n 0 dX10_count_70 rfl rfl ?_
    refine aw_getR dX10_count_71 fl_X10_74 rfl o11 (x := (h v0 24)) rfl ?_
    refine aw_iload_n 1 dX10_count_74 rfl rfl ?_
    refine aw_iconst dX10_count_75 ⟨by decide, by decide⟩ ?_
    refine aw_isub dX10_count_76 o12 ?_
    obtain ⟨o16, k⟩ := k
    obtain ⟨o17, k⟩ := k
    refine aw_iald dX10_count_77 o16 o14 o17 (x := (h (h v0 24) (v1 - 2))) rfl ?_
    obtain ⟨o18, k⟩ := k
    refine aw_isub dX10_count_78 o18 ?_
    exact aw_iret dX10_count_79 rfl k
  · have k := k.2.2.2.2.1 hc
    refine aw_tableIn (x := v1) (tgt := 80) dX10_count_1 (by omega) (by omega) (by rw [hc]; rfl) (by decide) ?_
    refine aw_aload_n 0 dX10_count_80 rfl rfl ?_
    obtain ⟨o19, k⟩ := k
    refine aw_callV (M' := mm_X10_readyEnds) 10 [] [] lk_X10_217 ⟨_, rfl, rfl⟩ dX10_count_81 rfl (Nat.le_of_ble_eq_true rfl) ⟨by decide, by decide, Nat.zero_le _, Nat.zero_le _⟩ o19 ?_
    exact k.mono (fun _ _ z => aw_sub [] rfl z)
  · have k := k.2.2.2.2.2.1 hc
    refine aw_tableIn (x := v1) (tgt := 85) dX10_count_1 (by omega) (by omega) (by rw [hc]; rfl) (by decide) ?_
    refine aw_aload_n 0 dX10_count_85 rfl rfl ?_
    obtain ⟨o20, k⟩ := k
    refine aw_callV (M' := mm_X10_allCells) 10 [] [] lk_X10_290 ⟨_, rfl, rfl⟩ dX10_count_86 rfl (Nat.le_of_ble_eq_true rfl) ⟨by decide, by decide, Nat.zero_le _, Nat.zero_le _⟩ o20 ?_
    exact k.mono (fun _ _ z => aw_sub [] rfl z)
  · have k := k.2.2.2.2.2.2.1 hc
    refine aw_tableIn (x := v1) (tgt := 90) dX10_count_1 (by omega) (by omega) (by rw [hc]; rfl) (by decide) ?_
    refine aw_aload_n 0 dX10_count_90 rfl rfl ?_
    obtain ⟨o21, k⟩ := k
    refine aw_getI dX10_count_91 fl_X10_120 rfl o21 (x := (h v0 28)) rfl ?_
    exact aw_iret dX10_count_94 rfl k
  · have k := k.2.2.2.2.2.2.2.1 hc
    refine aw_tableIn (x := v1) (tgt := 95) dX10_count_1 (by omega) (by omega) (by rw [hc]; rfl) (by decide) ?_
    refine aw_aload_n 0 dX10_count_95 rfl rfl ?_
    obtain ⟨o22, k⟩ := k
    refine aw_getI dX10_count_96 fl_X10_128 rfl o22 (x := (h v0 31)) rfl ?_
    exact aw_iret dX10_count_99 rfl k
  · have k := k.2.2.2.2.2.2.2.2.1 hc
    refine aw_tableIn (x := v1) (tgt := 100) dX10_count_1 (by omega) (by omega) (by rw [hc]; rfl) (by decide) ?_
    refine aw_aload_n 0 dX10_count_100 rfl rfl ?_
    obtain ⟨o23, k⟩ := k
    refine aw_getI dX10_count_101 fl_X10_123 rfl o23 (x := (h v0 29)) rfl ?_
    exact aw_iret dX10_count_104 rfl k
  · have k := k.2.2.2.2.2.2.2.2.2 hc
    refine aw_tableOut (x := v1) (tgt := 105) dX10_count_1 hc (by decide) ?_
    refine aw_sipush dX10_count_105 ⟨by decide, by decide⟩ (by decide) ?_
    exact aw_iret dX10_count_108 rfl k
theorem rn_X10_count {G : GG} {Q : Option VV → Hp → Prop} {v0 v1 : Int} {h : Hp} (k : ((v1 = 0) → (h v0 (-1) = 11) ∧ Q (some (vI (h v0 21))) h) ∧ ((v1 = 1) → (h v0 (-1) = 11) ∧ Q (some (vI (h v0 19))) h) ∧ ((v1 = 2) → (h v0 (-1) = 11) ∧ (inI (v1 - 2)) ∧ (h (h v0 25) (-1) = 20) ∧ (0 ≤ (v1 - 2)) ∧ ((v1 - 2) < h (h v0 25) (-2)) ∧ (h (h v0 24) (-1) = 20) ∧ ((v1 - 2) < h (h v0 24) (-2)) ∧ (inI ((h (h v0 25) (v1 - 2)) - (h (h v0 24) (v1 - 2)))) ∧ Q (some (vI ((h (h v0 25) (v1 - 2)) - (h (h v0 24) (v1 - 2))))) h) ∧ ((v1 = 3) → (h v0 (-1) = 11) ∧ (inI (v1 - 2)) ∧ (h (h v0 25) (-1) = 20) ∧ (0 ≤ (v1 - 2)) ∧ ((v1 - 2) < h (h v0 25) (-2)) ∧ (h (h v0 24) (-1) = 20) ∧ ((v1 - 2) < h (h v0 24) (-2)) ∧ (inI ((h (h v0 25) (v1 - 2)) - (h (h v0 24) (v1 - 2)))) ∧ Q (some (vI ((h (h v0 25) (v1 - 2)) - (h (h v0 24) (v1 - 2))))) h) ∧ ((v1 = 4) → (h v0 (-1) = 11) ∧ Runs G mm_X10_readyEnds [vR v0] h (fun r h' => AW G mm_X10_count (0, 0) 84 [] (r.toList ++ []) h' Q)) ∧ ((v1 = 5) → (h v0 (-1) = 11) ∧ Runs G mm_X10_allCells [vR v0] h (fun r h' => AW G mm_X10_count (0, 0) 89 [] (r.toList ++ []) h' Q)) ∧ ((v1 = 6) → (h v0 (-1) = 11) ∧ Q (some (vI (h v0 28))) h) ∧ ((v1 = 7) → (h v0 (-1) = 11) ∧ Q (some (vI (h v0 31))) h) ∧ ((v1 = 8) → (h v0 (-1) = 11) ∧ Q (some (vI (h v0 29))) h) ∧ ((v1 < 0 ∨ 8 < v1) → Q (some (vI (-1002))) h)) : Runs G mm_X10_count [vR v0, vI v1] h Q := Runs.of (by decide +kernel) (Nat.le_of_ble_eq_true rfl) (sg_X10_count_0 (b := (0, 0)) k)
set_option maxRecDepth 20000 in
theorem sg_X10_count_84 {G : GG} {b : Nat × Nat} {Q : Option VV → Hp → Prop} {s0 : Int} {h : Hp} (k : Q (some (vI s0)) h) : AW G mm_X10_count b 84 [] [vI s0] h Q := by
  exact aw_iret dX10_count_84 rfl k
set_option maxRecDepth 20000 in
theorem sg_X10_count_89 {G : GG} {b : Nat × Nat} {Q : Option VV → Hp → Prop} {s0 : Int} {h : Hp} (k : Q (some (vI s0)) h) : AW G mm_X10_count b 89 [] [vI s0] h Q := by
  exact aw_iret dX10_count_89 rfl k
set_option maxRecDepth 20000 in
theorem sg_X10_delay_0 {G : GG} {b : Nat × Nat} {Q : Option VV → Hp → Prop} {v0 v1 v2 : Int} {h : Hp} (k : ((0 ≤ v1 ∧ v1 ≤ 1) → ((1 ≤ v2 ∧ v2 ≤ 9) → (h v0 (-1) = 11) ∧ (h (h v0 18) (-1) = 20) ∧ (0 ≤ v1) ∧ (v1 < h (h v0 18) (-2)) ∧ ∀ h1, h1 = wr h (h v0 18) v1 v2 → Q (some (vI (h (h v0 18) v1))) h1) ∧ ((¬ (1 ≤ v2 ∧ v2 ≤ 9)) → Q (some (vI (-1002))) h)) ∧ ((¬ (0 ≤ v1 ∧ v1 ≤ 1)) → Q (some (vI (-1001))) h)) : AW G mm_X10_delay b 0 [(0, vR v0), (1, vI v1), (2, vI v2)] [] h Q := by
  refine aw_iload_n 1 dX10_delay_0 rfl rfl ?_
  refine aw_callS (M' := mm_X10_isHost) [vI v1] [] lk_X10_194 dX10_delay_1 rfl (Nat.le_of_ble_eq_true rfl) ⟨by decide, by decide, Nat.zero_le _, Nat.zero_le _⟩ ?_
  refine pu_X10_isHost ?_
  refine aw_if_ne (tgt := 11) dX10_delay_4 (by decide) (fun hc => ?_) (fun hc => ?_)
  · have k := k.1 (b2i_n.mp hc)
    refine aw_iload_n 2 dX10_delay_11 rfl rfl ?_
    refine aw_i2l dX10_delay_12 ?_
    refine aw_lconst (x := 1) dX10_delay_13 ⟨by decide, by decide⟩ (by decide) ?_
    refine aw_ldc2 (x := 9) dX10_delay_14 ⟨by decide, by decide⟩ cl_X10_226 ?_
    refine aw_callS (M' := mm_X10_in) [vL v2, vL 1, vL 9] [] lk_X10_95 dX10_delay_17 rfl (Nat.le_of_ble_eq_true rfl) ⟨by decide, by decide, Nat.zero_le _, Nat.zero_le _⟩ ?_
    refine pu_X10_in ?_
    refine aw_if_ne (tgt := 27) dX10_delay_20 (by decide) (fun hc => ?_) (fun hc => ?_)
    · have k := k.1 (b2i_n.mp hc)
      refine aw_aload_n 0 dX10_delay_27 rfl rfl ?_
      obtain ⟨o1, k⟩ := k
      refine aw_getR dX10_delay_28 fl_X10_65 rfl o1 (x := (h v0 18)) rfl ?_
      refine aw_iload_n 1 dX10_delay_31 rfl rfl ?_
      obtain ⟨o2, k⟩ := k
      obtain ⟨o3, k⟩ := k
      obtain ⟨o4, k⟩ := k
      refine aw_iald dX10_delay_32 o2 o3 o4 (x := (h (h v0 18) v1)) rfl ?_
      refine aw_istore_n dX10_delay_33 rfl (by decide) ?_
      refine aw_aload_n 1 dX10_delay_34 rfl rfl ?_
      refine aw_getR dX10_delay_35 fl_X10_65 rfl o1 (x := (h v0 18)) rfl ?_
      refine aw_iload_n 2 dX10_delay_38 rfl rfl ?_
      refine aw_iload_n 3 dX10_delay_39 rfl rfl ?_
      refine aw_iast dX10_delay_40 o2 o3 o4 ?_
      refine aw_hp (fun h1 e5 => ?_)
      have k := k h1 e5
      refine aw_iload_n 0 dX10_delay_41 rfl rfl ?_
      exact aw_iret dX10_delay_42 rfl k
    · have k := k.2 (b2i_0.mp hc)
      refine aw_sipush dX10_delay_23 ⟨by decide, by decide⟩ (by decide) ?_
      exact aw_iret dX10_delay_26 rfl k
  · have k := k.2 (b2i_0.mp hc)
    refine aw_sipush dX10_delay_7 ⟨by decide, by decide⟩ (by decide) ?_
    exact aw_iret dX10_delay_10 rfl k
theorem rn_X10_delay {G : GG} {Q : Option VV → Hp → Prop} {v0 v1 v2 : Int} {h : Hp} (k : ((0 ≤ v1 ∧ v1 ≤ 1) → ((1 ≤ v2 ∧ v2 ≤ 9) → (h v0 (-1) = 11) ∧ (h (h v0 18) (-1) = 20) ∧ (0 ≤ v1) ∧ (v1 < h (h v0 18) (-2)) ∧ ∀ h1, h1 = wr h (h v0 18) v1 v2 → Q (some (vI (h (h v0 18) v1))) h1) ∧ ((¬ (1 ≤ v2 ∧ v2 ≤ 9)) → Q (some (vI (-1002))) h)) ∧ ((¬ (0 ≤ v1 ∧ v1 ≤ 1)) → Q (some (vI (-1001))) h)) : Runs G mm_X10_delay [vR v0, vI v1, vI v2] h Q := Runs.of (by decide +kernel) (Nat.le_of_ble_eq_true rfl) (sg_X10_delay_0 (b := (0, 0)) k)
set_option maxRecDepth 20000 in
theorem sg_X10_does_0 {G : GG} {b : Nat × Nat} {Q : Option VV → Hp → Prop} {v0 v1 : Int} {h : Hp} (k : ((v1 = 0) → (h v0 (-1) = 11) ∧ Runs G mm_X10_allAnew [vR v0] h (fun r h' => AW G mm_X10_does b 40 [] (r.toList ++ []) h' Q)) ∧ ((v1 = 1) → (h v0 (-1) = 11) ∧ (h (h v0 36) (-1) = 20) ∧ (0 < h (h v0 36) (-2)) ∧ (inI (4 * (h (h v0 36) 0))) ∧ (1 < h (h v0 36) (-2)) ∧ (inI ((4 * (h (h v0 36) 0)) + (h (h v0 36) 1))) ∧ (2 < h (h v0 36) (-2)) ∧ (3 < h (h v0 36) (-2)) ∧ (4 < h (h v0 36) (-2)) ∧ Runs G mm_X10_keys [vR v0, vI ((4 * (h (h v0 36) 0)) + (h (h v0 36) 1)), vI (h (h v0 36) 2), vI (h (h v0 36) 3), vI (h (h v0 36) 4)] h (fun r h' => AW G mm_X10_does b 80 [] (r.toList ++ []) h' Q)) ∧ ((v1 = 2) → (h v0 (-1) = 11) ∧ (h (h v0 36) (-1) = 20) ∧ (0 < h (h v0 36) (-2)) ∧ (inI (12 * (h (h v0 36) 0))) ∧ (1 < h (h v0 36) (-2)) ∧ (inI ((12 * (h (h v0 36) 0)) + (h (h v0 36) 1))) ∧ (2 < h (h v0 36) (-2)) ∧ (h (h v0 0) (-1) = 20) ∧ (0 ≤ ((12 * (h (h v0 36) 0)) + (h (h v0 36) 1))) ∧ (((12 * (h (h v0 36) 0)) + (h (h v0 36) 1)) < h (h v0 0) (-2)) ∧ ∀ h1, h1 = wr h (h v0 0) ((12 * (h (h v0 36) 0)) + (h (h v0 36) 1)) (h (h v0 36) 2) → Q none h1) ∧ ((v1 = 3) → (h v0 (-1) = 11) ∧ (h (h v0 36) (-1) = 20) ∧ (0 < h (h v0 36) (-2)) ∧ (1 < h (h v0 36) (-2)) ∧ (h (h v0 18) (-1) = 20) ∧ (0 ≤ (h (h v0 36) 0)) ∧ ((h (h v0 36) 0) < h (h v0 18) (-2)) ∧ ∀ h1, h1 = wr h (h v0 18) (h (h v0 36) 0) (h (h v0 36) 1) → Q none h1) ∧ ((v1 = 4) → (h v0 (-1) = 11) ∧ (h (h v0 36) (-1) = 20) ∧ (0 < h (h v0 36) (-2)) ∧ (1 < h (h v0 36) (-2)) ∧ (h (h v0 16) (-1) = 20) ∧ (0 ≤ (h (h v0 36) 0)) ∧ ((h (h v0 36) 0) < h (h v0 16) (-2)) ∧ ∀ h1, h1 = wr h (h v0 16) (h (h v0 36) 0) (h (h v0 36) 1) → (2 < h (h v0 36) (-2)) ∧ (h (h v0 17) (-1) = 20) ∧ (0 ≤ (h1 (h v0 36) 0)) ∧ ((h1 (h v0 36) 0) < h (h v0 17) (-2)) ∧ ∀ h2, h2 = wr h1 (h v0 17) (h1 (h v0 36) 0) (h1 (h v0 36) 2) → Q none h2) ∧ ((v1 < 0 ∨ 4 < v1) → (h v0 (-1) = 11) ∧ (h (h v0 36) (-1) = 20) ∧ (0 < h (h v0 36) (-2)) ∧ Runs G mm_X10_joins [vR v0, vI (h (h v0 36) 0)] h (fun r h' => AW G mm_X10_does b 180 [] (r.toList ++ []) h' Q))) : AW G mm_X10_does b 0 [(0, vR v0), (1, vI v1)] [] h Q := by
  refine aw_iload_n 1 dX10_does_0 rfl rfl ?_
  rcases (show v1 = 0 ∨ v1 = 1 ∨ v1 = 2 ∨ v1 = 3 ∨ v1 = 4 ∨ (v1 < 0 ∨ 4 < v1) by omega) with hc | hc | hc | hc | hc | hc
  · have k := k.1 hc
    refine aw_tableIn (x := v1) (tgt := 36) dX10_does_1 (by omega) (by omega) (by rw [hc]; rfl) (by decide) ?_
    refine aw_aload_n 0 dX10_does_36 rfl rfl ?_
    obtain ⟨o1, k⟩ := k
    refine aw_callV (M' := mm_X10_allAnew) 10 [] [] lk_X10_159 ⟨_, rfl, rfl⟩ dX10_does_37 rfl (Nat.le_of_ble_eq_true rfl) ⟨by decide, by decide, Nat.zero_le _, Nat.zero_le _⟩ o1 ?_
    exact k.mono (fun _ _ z => aw_sub [] rfl z)
  · have k := k.2.1 hc
    refine aw_tableIn (x := v1) (tgt := 43) dX10_does_1 (by omega) (by omega) (by rw [hc]; rfl) (by decide) ?_
    refine aw_aload_n 0 dX10_does_43 rfl rfl ?_
    refine aw_iconst dX10_does_44 ⟨by decide, by decide⟩ ?_
    refine aw_aload_n 0 dX10_does_45 rfl rfl ?_
    obtain ⟨o2, k⟩ := k
    refine aw_getR dX10_does_46 fl_X10_86 rfl o2 (x := (h v0 36)) rfl ?_
    refine aw_iconst dX10_does_49 ⟨by decide, by decide⟩ ?_
    obtain ⟨o3, k⟩ := k
    obtain ⟨o4, k⟩ := k
    refine aw_iald dX10_does_50 o3 (by decide) o4 (x := (h (h v0 36) 0)) rfl ?_
    obtain ⟨o5, k⟩ := k
    refine aw_imul dX10_does_51 o5 ?_
    refine aw_aload_n 0 dX10_does_52 rfl rfl ?_
    refine aw_getR dX10_does_53 fl_X10_86 rfl o2 (x := (h v0 36)) rfl ?_
    refine aw_iconst dX10_does_56 ⟨by decide, by decide⟩ ?_
    obtain ⟨o6, k⟩ := k
    refine aw_iald dX10_does_57 o3 (by decide) o6 (x := (h (h v0 36) 1)) rfl ?_
    obtain ⟨o7, k⟩ := k
    refine aw_iadd dX10_does_58 o7 ?_
    refine aw_aload_n 0 dX10_does_59 rfl rfl ?_
    refine aw_getR dX10_does_60 fl_X10_86 rfl o2 (x := (h v0 36)) rfl ?_
    refine aw_iconst dX10_does_63 ⟨by decide, by decide⟩ ?_
    obtain ⟨o8, k⟩ := k
    refine aw_iald dX10_does_64 o3 (by decide) o8 (x := (h (h v0 36) 2)) rfl ?_
    refine aw_aload_n 0 dX10_does_65 rfl rfl ?_
    refine aw_getR dX10_does_66 fl_X10_86 rfl o2 (x := (h v0 36)) rfl ?_
    refine aw_iconst dX10_does_69 ⟨by decide, by decide⟩ ?_
    obtain ⟨o9, k⟩ := k
    refine aw_iald dX10_does_70 o3 (by decide) o9 (x := (h (h v0 36) 3)) rfl ?_
    refine aw_aload_n 0 dX10_does_71 rfl rfl ?_
    refine aw_getR dX10_does_72 fl_X10_86 rfl o2 (x := (h v0 36)) rfl ?_
    refine aw_iconst dX10_does_75 ⟨by decide, by decide⟩ ?_
    obtain ⟨o10, k⟩ := k
    refine aw_iald dX10_does_76 o3 (by decide) o10 (x := (h (h v0 36) 4)) rfl ?_
    refine aw_callV (M' := mm_X10_keys) 10 [vI ((4 * (h (h v0 36) 0)) + (h (h v0 36) 1)), vI (h (h v0 36) 2), vI (h (h v0 36) 3), vI (h (h v0 36) 4)] [] lk_X10_162 ⟨_, rfl, rfl⟩ dX10_does_77 rfl (Nat.le_of_ble_eq_true rfl) ⟨by decide, by decide, Nat.zero_le _, Nat.zero_le _⟩ o2 ?_
    exact k.mono (fun _ _ z => aw_sub [] rfl z)
  · have k := k.2.2.1 hc
    refine aw_tableIn (x := v1) (tgt := 83) dX10_does_1 (by omega) (by omega) (by rw [hc]; rfl) (by decide) ?_
    refine aw_aload_n 0 dX10_does_83 rfl rfl ?_
    obtain ⟨o11, k⟩ := k
    refine aw_getR dX10_does_84 fl_X10_7 rfl o11 (x := (h v0 0)) rfl ?_
    refine aw_bipush dX10_does_87 ⟨by decide, by decide⟩ (by decide) ?_
    refine aw_aload_n 0 dX10_does_89 rfl rfl ?_
    refine aw_getR dX10_does_90 fl_X10_86 rfl o11 (x := (h v0 36)) rfl ?_
    refine aw_iconst dX10_does_93 ⟨by decide, by decide⟩ ?_
    obtain ⟨o12, k⟩ := k
    obtain ⟨o13, k⟩ := k
    refine aw_iald dX10_does_94 o12 (by decide) o13 (x := (h (h v0 36) 0)) rfl ?_
    obtain ⟨o14, k⟩ := k
    refine aw_imul dX10_does_95 o14 ?_
    refine aw_aload_n 0 dX10_does_96 rfl rfl ?_
    refine aw_getR dX10_does_97 fl_X10_86 rfl o11 (x := (h v0 36)) rfl ?_
    refine aw_iconst dX10_does_100 ⟨by decide, by decide⟩ ?_
    obtain ⟨o15, k⟩ := k
    refine aw_iald dX10_does_101 o12 (by decide) o15 (x := (h (h v0 36) 1)) rfl ?_
    obtain ⟨o16, k⟩ := k
    refine aw_iadd dX10_does_102 o16 ?_
    refine aw_aload_n 0 dX10_does_103 rfl rfl ?_
    refine aw_getR dX10_does_104 fl_X10_86 rfl o11 (x := (h v0 36)) rfl ?_
    refine aw_iconst dX10_does_107 ⟨by decide, by decide⟩ ?_
    obtain ⟨o17, k⟩ := k
    refine aw_iald dX10_does_108 o12 (by decide) o17 (x := (h (h v0 36) 2)) rfl ?_
    obtain ⟨o18, k⟩ := k
    obtain ⟨o19, k⟩ := k
    obtain ⟨o20, k⟩ := k
    refine aw_iast dX10_does_109 o18 o19 o20 ?_
    refine aw_hp (fun h1 e21 => ?_)
    have k := k h1 e21
    refine aw_goto (tgt := 180) dX10_does_110 (by decide) ?_
    exact aw_vret dX10_does_180 rfl k
  · have k := k.2.2.2.1 hc
    refine aw_tableIn (x := v1) (tgt := 113) dX10_does_1 (by omega) (by omega) (by rw [hc]; rfl) (by decide) ?_
    refine aw_aload_n 0 dX10_does_113 rfl rfl ?_
    obtain ⟨o22, k⟩ := k
    refine aw_getR dX10_does_114 fl_X10_65 rfl o22 (x := (h v0 18)) rfl ?_
    refine aw_aload_n 0 dX10_does_117 rfl rfl ?_
    refine aw_getR dX10_does_118 fl_X10_86 rfl o22 (x := (h v0 36)) rfl ?_
    refine aw_iconst dX10_does_121 ⟨by decide, by decide⟩ ?_
    obtain ⟨o23, k⟩ := k
    obtain ⟨o24, k⟩ := k
    refine aw_iald dX10_does_122 o23 (by decide) o24 (x := (h (h v0 36) 0)) rfl ?_
    refine aw_aload_n 0 dX10_does_123 rfl rfl ?_
    refine aw_getR dX10_does_124 fl_X10_86 rfl o22 (x := (h v0 36)) rfl ?_
    refine aw_iconst dX10_does_127 ⟨by decide, by decide⟩ ?_
    obtain ⟨o25, k⟩ := k
    refine aw_iald dX10_does_128 o23 (by decide) o25 (x := (h (h v0 36) 1)) rfl ?_
    obtain ⟨o26, k⟩ := k
    obtain ⟨o27, k⟩ := k
    obtain ⟨o28, k⟩ := k
    refine aw_iast dX10_does_129 o26 o27 o28 ?_
    refine aw_hp (fun h1 e29 => ?_)
    have k := k h1 e29
    refine aw_goto (tgt := 180) dX10_does_130 (by decide) ?_
    exact aw_vret dX10_does_180 rfl k
  · have k := k.2.2.2.2.1 hc
    refine aw_tableIn (x := v1) (tgt := 133) dX10_does_1 (by omega) (by omega) (by rw [hc]; rfl) (by decide) ?_
    refine aw_aload_n 0 dX10_does_133 rfl rfl ?_
    obtain ⟨o30, k⟩ := k
    refine aw_getR dX10_does_134 fl_X10_59 rfl o30 (x := (h v0 16)) rfl ?_
    refine aw_aload_n 0 dX10_does_137 rfl rfl ?_
    refine aw_getR dX10_does_138 fl_X10_86 rfl o30 (x := (h v0 36)) rfl ?_
    refine aw_iconst dX10_does_141 ⟨by decide, by decide⟩ ?_
    obtain ⟨o31, k⟩ := k
    obtain ⟨o32, k⟩ := k
    refine aw_iald dX10_does_142 o31 (by decide) o32 (x := (h (h v0 36) 0)) rfl ?_
    refine aw_aload_n 0 dX10_does_143 rfl rfl ?_
    refine aw_getR dX10_does_144 fl_X10_86 rfl o30 (x := (h v0 36)) rfl ?_
    refine aw_iconst dX10_does_147 ⟨by decide, by decide⟩ ?_
    obtain ⟨o33, k⟩ := k
    refine aw_iald dX10_does_148 o31 (by decide) o33 (x := (h (h v0 36) 1)) rfl ?_
    obtain ⟨o34, k⟩ := k
    obtain ⟨o35, k⟩ := k
    obtain ⟨o36, k⟩ := k
    refine aw_iast dX10_does_149 o34 o35 o36 ?_
    refine aw_hp (fun h1 e37 => ?_)
    have k := k h1 e37
    refine aw_aload_n 0 dX10_does_150 rfl rfl ?_
    have q38 := sh_w e37 o35 o30
    refine aw_getR dX10_does_151 fl_X10_62 rfl q38 (x := (h v0 17)) (rd_a e37 v0 17 (ne_sh o34 o30 (by decide))) ?_
    refine aw_aload_n 0 dX10_does_154 rfl rfl ?_
    refine aw_getR dX10_does_155 fl_X10_86 rfl q38 (x := (h v0 36)) (rd_a e37 v0 36 (ne_sh o34 o30 (by decide))) ?_
    refine aw_iconst dX10_does_158 ⟨by decide, by decide⟩ ?_
    have q39 := sh_w e37 o35 o31
    refine aw_iald dX10_does_159 q39 (by decide) (lt_l (ln_w e37 (h v0 36) o35) o32) (x := (h1 (h v0 36) 0)) rfl ?_
    refine aw_aload_n 0 dX10_does_160 rfl rfl ?_
    refine aw_getR dX10_does_161 fl_X10_86 rfl q38 (x := (h v0 36)) (rd_a e37 v0 36 (ne_sh o34 o30 (by decide))) ?_
    refine aw_iconst dX10_does_164 ⟨by decide, by decide⟩ ?_
    obtain ⟨o40, k⟩ := k
    refine aw_iald dX10_does_165 q39 (by decide) (lt_l (ln_w e37 (h v0 36) o35) o40) (x := (h1 (h v0 36) 2)) rfl ?_
    obtain ⟨o41, k⟩ := k
    obtain ⟨o42, k⟩ := k
    obtain ⟨o43, k⟩ := k
    have q44 := sh_w e37 o35 o41
    refine aw_iast dX10_does_166 q44 o42 (lt_l (ln_w e37 (h v0 17) o35) o43) ?_
    refine aw_hp (fun h2 e45 => ?_)
    have k := k h2 e45
    refine aw_goto (tgt := 180) dX10_does_167 (by decide) ?_
    exact aw_vret dX10_does_180 rfl k
  · have k := k.2.2.2.2.2 hc
    refine aw_tableOut (x := v1) (tgt := 170) dX10_does_1 hc (by decide) ?_
    refine aw_aload_n 0 dX10_does_170 rfl rfl ?_
    refine aw_aload_n 0 dX10_does_171 rfl rfl ?_
    obtain ⟨o46, k⟩ := k
    refine aw_getR dX10_does_172 fl_X10_86 rfl o46 (x := (h v0 36)) rfl ?_
    refine aw_iconst dX10_does_175 ⟨by decide, by decide⟩ ?_
    obtain ⟨o47, k⟩ := k
    obtain ⟨o48, k⟩ := k
    refine aw_iald dX10_does_176 o47 (by decide) o48 (x := (h (h v0 36) 0)) rfl ?_
    refine aw_callV (M' := mm_X10_joins) 10 [vI (h (h v0 36) 0)] [] lk_X10_166 ⟨_, rfl, rfl⟩ dX10_does_177 rfl (Nat.le_of_ble_eq_true rfl) ⟨by decide, by decide, Nat.zero_le _, Nat.zero_le _⟩ o46 ?_
    exact k.mono (fun _ _ z => aw_sub [] rfl z)
theorem rn_X10_does {G : GG} {Q : Option VV → Hp → Prop} {v0 v1 : Int} {h : Hp} (k : ((v1 = 0) → (h v0 (-1) = 11) ∧ Runs G mm_X10_allAnew [vR v0] h (fun r h' => AW G mm_X10_does (0, 0) 40 [] (r.toList ++ []) h' Q)) ∧ ((v1 = 1) → (h v0 (-1) = 11) ∧ (h (h v0 36) (-1) = 20) ∧ (0 < h (h v0 36) (-2)) ∧ (inI (4 * (h (h v0 36) 0))) ∧ (1 < h (h v0 36) (-2)) ∧ (inI ((4 * (h (h v0 36) 0)) + (h (h v0 36) 1))) ∧ (2 < h (h v0 36) (-2)) ∧ (3 < h (h v0 36) (-2)) ∧ (4 < h (h v0 36) (-2)) ∧ Runs G mm_X10_keys [vR v0, vI ((4 * (h (h v0 36) 0)) + (h (h v0 36) 1)), vI (h (h v0 36) 2), vI (h (h v0 36) 3), vI (h (h v0 36) 4)] h (fun r h' => AW G mm_X10_does (0, 0) 80 [] (r.toList ++ []) h' Q)) ∧ ((v1 = 2) → (h v0 (-1) = 11) ∧ (h (h v0 36) (-1) = 20) ∧ (0 < h (h v0 36) (-2)) ∧ (inI (12 * (h (h v0 36) 0))) ∧ (1 < h (h v0 36) (-2)) ∧ (inI ((12 * (h (h v0 36) 0)) + (h (h v0 36) 1))) ∧ (2 < h (h v0 36) (-2)) ∧ (h (h v0 0) (-1) = 20) ∧ (0 ≤ ((12 * (h (h v0 36) 0)) + (h (h v0 36) 1))) ∧ (((12 * (h (h v0 36) 0)) + (h (h v0 36) 1)) < h (h v0 0) (-2)) ∧ ∀ h1, h1 = wr h (h v0 0) ((12 * (h (h v0 36) 0)) + (h (h v0 36) 1)) (h (h v0 36) 2) → Q none h1) ∧ ((v1 = 3) → (h v0 (-1) = 11) ∧ (h (h v0 36) (-1) = 20) ∧ (0 < h (h v0 36) (-2)) ∧ (1 < h (h v0 36) (-2)) ∧ (h (h v0 18) (-1) = 20) ∧ (0 ≤ (h (h v0 36) 0)) ∧ ((h (h v0 36) 0) < h (h v0 18) (-2)) ∧ ∀ h1, h1 = wr h (h v0 18) (h (h v0 36) 0) (h (h v0 36) 1) → Q none h1) ∧ ((v1 = 4) → (h v0 (-1) = 11) ∧ (h (h v0 36) (-1) = 20) ∧ (0 < h (h v0 36) (-2)) ∧ (1 < h (h v0 36) (-2)) ∧ (h (h v0 16) (-1) = 20) ∧ (0 ≤ (h (h v0 36) 0)) ∧ ((h (h v0 36) 0) < h (h v0 16) (-2)) ∧ ∀ h1, h1 = wr h (h v0 16) (h (h v0 36) 0) (h (h v0 36) 1) → (2 < h (h v0 36) (-2)) ∧ (h (h v0 17) (-1) = 20) ∧ (0 ≤ (h1 (h v0 36) 0)) ∧ ((h1 (h v0 36) 0) < h (h v0 17) (-2)) ∧ ∀ h2, h2 = wr h1 (h v0 17) (h1 (h v0 36) 0) (h1 (h v0 36) 2) → Q none h2) ∧ ((v1 < 0 ∨ 4 < v1) → (h v0 (-1) = 11) ∧ (h (h v0 36) (-1) = 20) ∧ (0 < h (h v0 36) (-2)) ∧ Runs G mm_X10_joins [vR v0, vI (h (h v0 36) 0)] h (fun r h' => AW G mm_X10_does (0, 0) 180 [] (r.toList ++ []) h' Q))) : Runs G mm_X10_does [vR v0, vI v1] h Q := Runs.of (by decide +kernel) (Nat.le_of_ble_eq_true rfl) (sg_X10_does_0 (b := (0, 0)) k)
set_option maxRecDepth 20000 in
theorem sg_X10_does_40 {G : GG} {b : Nat × Nat} {Q : Option VV → Hp → Prop} {h : Hp} (k : Q none h) : AW G mm_X10_does b 40 [] [] h Q := by
  refine aw_goto (tgt := 180) dX10_does_40 (by decide) ?_
  exact aw_vret dX10_does_180 rfl k
set_option maxRecDepth 20000 in
theorem sg_X10_does_80 {G : GG} {b : Nat × Nat} {Q : Option VV → Hp → Prop} {h : Hp} (k : Q none h) : AW G mm_X10_does b 80 [] [] h Q := by
  refine aw_goto (tgt := 180) dX10_does_80 (by decide) ?_
  exact aw_vret dX10_does_180 rfl k
set_option maxRecDepth 20000 in
theorem sg_X10_does_180 {G : GG} {b : Nat × Nat} {Q : Option VV → Hp → Prop} {h : Hp} (k : Q none h) : AW G mm_X10_does b 180 [] [] h Q := by
  exact aw_vret dX10_does_180 rfl k
set_option maxRecDepth 20000 in
theorem sg_X10_door_0 {G : GG} {b : Nat × Nat} {Q : Option VV → Hp → Prop} {v0 v1 v2 v3 : Int} {h : Hp} (k : ((¬ (0 ≤ v1 ∧ v1 ≤ 1)) → Q (some (vI (-1001))) h) ∧ ((0 ≤ v1 ∧ v1 ≤ 1) → ((0 ≤ v2 ∧ v2 ≤ 3) → ((0 ≤ v3 ∧ v3 ≤ 2) → (inI (4 * v1)) ∧ (inI ((4 * v1) + v2)) ∧ (h v0 (-1) = 11) ∧ (h (h v0 2) (-1) = 20) ∧ (0 ≤ ((4 * v1) + v2)) ∧ (((4 * v1) + v2) < h (h v0 2) (-2)) ∧ ((¬ (h (h v0 2) ((4 * v1) + v2)) = 0) → ((¬ v3 = 0) → ((¬ v3 = 1) → (h (h v0 3) (-1) = 20) ∧ (((4 * v1) + v2) < h (h v0 3) (-2)) ∧ Q (some (vI (h (h v0 3) ((4 * v1) + v2)))) h) ∧ ((v3 = 1) → Q (some (vI (h (h v0 2) ((4 * v1) + v2)))) h)) ∧ ((v3 = 0) → (h (h v0 1) (-1) = 20) ∧ (((4 * v1) + v2) < h (h v0 1) (-2)) ∧ Q (some (vI (h (h v0 1) ((4 * v1) + v2)))) h)) ∧ (((h (h v0 2) ((4 * v1) + v2)) = 0) → Q (some (vI (-1003))) h)) ∧ ((¬ (0 ≤ v3 ∧ v3 ≤ 2)) → Q (some (vI (-1002))) h)) ∧ ((¬ (0 ≤ v2 ∧ v2 ≤ 3)) → Q (some (vI (-1001))) h))) : AW G mm_X10_door b 0 [(0, vR v0), (1, vI v1), (2, vI v2), (3, vI v3)] [] h Q := by
  refine aw_iload_n 1 dX10_door_0 rfl rfl ?_
  refine aw_callS (M' := mm_X10_isHost) [vI v1] [] lk_X10_194 dX10_door_1 rfl (Nat.le_of_ble_eq_true rfl) ⟨by decide, by decide, Nat.zero_le _, Nat.zero_le _⟩ ?_
  refine pu_X10_isHost ?_
  refine aw_if_eq (tgt := 19) dX10_door_4 (by decide) (fun hc => ?_) (fun hc => ?_)
  · have k := k.1 (b2i_0.mp hc)
    refine aw_sipush dX10_door_19 ⟨by decide, by decide⟩ (by decide) ?_
    exact aw_iret dX10_door_22 rfl k
  · have k := k.2 (b2i_n.mp hc)
    refine aw_iload_n 2 dX10_door_7 rfl rfl ?_
    refine aw_i2l dX10_door_8 ?_
    refine aw_lconst (x := 0) dX10_door_9 ⟨by decide, by decide⟩ (by decide) ?_
    refine aw_ldc2 (x := 3) dX10_door_10 ⟨by decide, by decide⟩ cl_X10_101 ?_
    refine aw_callS (M' := mm_X10_in) [vL v2, vL 0, vL 3] [] lk_X10_95 dX10_door_13 rfl (Nat.le_of_ble_eq_true rfl) ⟨by decide, by decide, Nat.zero_le _, Nat.zero_le _⟩ ?_
    refine pu_X10_in ?_
    refine aw_if_ne (tgt := 23) dX10_door_16 (by decide) (fun hc => ?_) (fun hc => ?_)
    · have k := k.1 (b2i_n.mp hc)
      refine aw_iload_n 3 dX10_door_23 rfl rfl ?_
      refine aw_i2l dX10_door_24 ?_
      refine aw_lconst (x := 0) dX10_door_25 ⟨by decide, by decide⟩ (by decide) ?_
      refine aw_ldc2 (x := 2) dX10_door_26 ⟨by decide, by decide⟩ cl_X10_209 ?_
      refine aw_callS (M' := mm_X10_in) [vL v3, vL 0, vL 2] [] lk_X10_95 dX10_door_29 rfl (Nat.le_of_ble_eq_true rfl) ⟨by decide, by decide, Nat.zero_le _, Nat.zero_le _⟩ ?_
      refine pu_X10_in ?_
      refine aw_if_ne (tgt := 39) dX10_door_32 (by decide) (fun hc => ?_) (fun hc => ?_)
      · have k := k.1 (b2i_n.mp hc)
        refine aw_iconst dX10_door_39 ⟨by decide, by decide⟩ ?_
        refine aw_iload_n 1 dX10_door_40 rfl rfl ?_
        obtain ⟨o1, k⟩ := k
        refine aw_imul dX10_door_41 o1 ?_
        refine aw_iload_n 2 dX10_door_42 rfl rfl ?_
        obtain ⟨o2, k⟩ := k
        refine aw_iadd dX10_door_43 o2 ?_
        refine aw_istore dX10_door_44 (by decide) ?_
        refine aw_aload_n 1 dX10_door_46 rfl rfl ?_
        obtain ⟨o3, k⟩ := k
        refine aw_getR dX10_door_47 fl_X10_16 rfl o3 (x := (h v0 2)) rfl ?_
        refine aw_iload 0 dX10_door_50 rfl ?_
        obtain ⟨o4, k⟩ := k
        obtain ⟨o5, k⟩ := k
        obtain ⟨o6, k⟩ := k
        refine aw_iald dX10_door_52 o4 o5 o6 (x := (h (h v0 2) ((4 * v1) + v2))) rfl ?_
        refine aw_if_ne (tgt := 62) dX10_door_53 (by decide) (fun hc => ?_) (fun hc => ?_)
        · have k := k.1 hc
          refine aw_iload_n 4 dX10_door_62 rfl rfl ?_
          refine aw_if_ne (tgt := 76) dX10_door_63 (by decide) (fun hc => ?_) (fun hc => ?_)
          · have k := k.1 hc
            refine aw_iload_n 4 dX10_door_76 rfl rfl ?_
            refine aw_iconst dX10_door_77 ⟨by decide, by decide⟩ ?_
            refine aw_icmp_ne (tgt := 91) dX10_door_78 (by decide) (fun hc => ?_) (fun hc => ?_)
            · have k := k.1 hc
              refine aw_aload_n 1 dX10_door_91 rfl rfl ?_
              refine aw_getR dX10_door_92 fl_X10_19 rfl o3 (x := (h v0 3)) rfl ?_
              refine aw_iload 0 dX10_door_95 rfl ?_
              obtain ⟨o7, k⟩ := k
              obtain ⟨o8, k⟩ := k
              refine aw_iald dX10_door_97 o7 o5 o8 (x := (h (h v0 3) ((4 * v1) + v2))) rfl ?_
              exact aw_iret dX10_door_98 rfl k
            · have k := k.2 hc
              refine aw_aload_n 1 dX10_door_81 rfl rfl ?_
              refine aw_getR dX10_door_82 fl_X10_16 rfl o3 (x := (h v0 2)) rfl ?_
              refine aw_iload 0 dX10_door_85 rfl ?_
              refine aw_iald dX10_door_87 o4 o5 o6 (x := (h (h v0 2) ((4 * v1) + v2))) rfl ?_
              refine aw_goto (tgt := 98) dX10_door_88 (by decide) ?_
              exact aw_iret dX10_door_98 rfl k
          · have k := k.2 hc
            refine aw_aload_n 1 dX10_door_66 rfl rfl ?_
            refine aw_getR dX10_door_67 fl_X10_13 rfl o3 (x := (h v0 1)) rfl ?_
            refine aw_iload 0 dX10_door_70 rfl ?_
            obtain ⟨o9, k⟩ := k
            obtain ⟨o10, k⟩ := k
            refine aw_iald dX10_door_72 o9 o5 o10 (x := (h (h v0 1) ((4 * v1) + v2))) rfl ?_
            refine aw_goto (tgt := 98) dX10_door_73 (by decide) ?_
            exact aw_iret dX10_door_98 rfl k
        · have k := k.2 hc
          refine aw_sipush dX10_door_56 ⟨by decide, by decide⟩ (by decide) ?_
          refine aw_goto (tgt := 98) dX10_door_59 (by decide) ?_
          exact aw_iret dX10_door_98 rfl k
      · have k := k.2 (b2i_0.mp hc)
        refine aw_sipush dX10_door_35 ⟨by decide, by decide⟩ (by decide) ?_
        exact aw_iret dX10_door_38 rfl k
    · have k := k.2 (b2i_0.mp hc)
      refine aw_sipush dX10_door_19 ⟨by decide, by decide⟩ (by decide) ?_
      exact aw_iret dX10_door_22 rfl k
theorem rn_X10_door {G : GG} {Q : Option VV → Hp → Prop} {v0 v1 v2 v3 : Int} {h : Hp} (k : ((¬ (0 ≤ v1 ∧ v1 ≤ 1)) → Q (some (vI (-1001))) h) ∧ ((0 ≤ v1 ∧ v1 ≤ 1) → ((0 ≤ v2 ∧ v2 ≤ 3) → ((0 ≤ v3 ∧ v3 ≤ 2) → (inI (4 * v1)) ∧ (inI ((4 * v1) + v2)) ∧ (h v0 (-1) = 11) ∧ (h (h v0 2) (-1) = 20) ∧ (0 ≤ ((4 * v1) + v2)) ∧ (((4 * v1) + v2) < h (h v0 2) (-2)) ∧ ((¬ (h (h v0 2) ((4 * v1) + v2)) = 0) → ((¬ v3 = 0) → ((¬ v3 = 1) → (h (h v0 3) (-1) = 20) ∧ (((4 * v1) + v2) < h (h v0 3) (-2)) ∧ Q (some (vI (h (h v0 3) ((4 * v1) + v2)))) h) ∧ ((v3 = 1) → Q (some (vI (h (h v0 2) ((4 * v1) + v2)))) h)) ∧ ((v3 = 0) → (h (h v0 1) (-1) = 20) ∧ (((4 * v1) + v2) < h (h v0 1) (-2)) ∧ Q (some (vI (h (h v0 1) ((4 * v1) + v2)))) h)) ∧ (((h (h v0 2) ((4 * v1) + v2)) = 0) → Q (some (vI (-1003))) h)) ∧ ((¬ (0 ≤ v3 ∧ v3 ≤ 2)) → Q (some (vI (-1002))) h)) ∧ ((¬ (0 ≤ v2 ∧ v2 ≤ 3)) → Q (some (vI (-1001))) h))) : Runs G mm_X10_door [vR v0, vI v1, vI v2, vI v3] h Q := Runs.of (by decide +kernel) (Nat.le_of_ble_eq_true rfl) (sg_X10_door_0 (b := (0, 0)) k)
set_option maxRecDepth 20000 in
theorem sg_X10_end_0 {G : GG} {b : Nat × Nat} {Q : Option VV → Hp → Prop} {v0 v1 v2 : Int} {h : Hp} (k : ((0 ≤ v1 ∧ v1 ≤ 3) → ((v2 = 0) → (h v0 (-1) = 11) ∧ (h (h v0 4) (-1) = 20) ∧ (0 ≤ v1) ∧ (v1 < h (h v0 4) (-2)) ∧ Q (some (vI (h (h v0 4) v1))) h) ∧ ((v2 = 1) → (h v0 (-1) = 11) ∧ (h (h v0 5) (-1) = 20) ∧ (0 ≤ v1) ∧ (v1 < h (h v0 5) (-2)) ∧ Q (some (vI (h (h v0 5) v1))) h) ∧ ((v2 = 2) → (h v0 (-1) = 11) ∧ (h (h v0 6) (-1) = 20) ∧ (0 ≤ v1) ∧ (v1 < h (h v0 6) (-2)) ∧ Q (some (vI (h (h v0 6) v1))) h) ∧ ((v2 = 3) → (h v0 (-1) = 11) ∧ (h (h v0 8) (-1) = 20) ∧ (0 ≤ v1) ∧ (v1 < h (h v0 8) (-2)) ∧ Q (some (vI (h (h v0 8) v1))) h) ∧ ((v2 = 4) → (h v0 (-1) = 11) ∧ (h (h v0 9) (-1) = 20) ∧ (0 ≤ v1) ∧ (v1 < h (h v0 9) (-2)) ∧ Q (some (vI (h (h v0 9) v1))) h) ∧ ((v2 = 5) → (h v0 (-1) = 11) ∧ (h (h v0 11) (-1) = 20) ∧ (0 ≤ v1) ∧ (v1 < h (h v0 11) (-2)) ∧ Q (some (vI (h (h v0 11) v1))) h) ∧ ((v2 = 6) → (h v0 (-1) = 11) ∧ (h (h v0 12) (-1) = 20) ∧ (0 ≤ v1) ∧ (v1 < h (h v0 12) (-2)) ∧ Q (some (vI (h (h v0 12) v1))) h) ∧ ((v2 = 7) → (h v0 (-1) = 11) ∧ (h (h v0 13) (-1) = 21) ∧ (0 ≤ v1) ∧ (v1 < h (h v0 13) (-2)) ∧ (((h (h v0 13) v1) = 0) → Q (some (vI 0)) h) ∧ ((¬ ((h (h v0 13) v1) = 0)) → Q (some (vI 1)) h)) ∧ ((v2 = 8) → (h v0 (-1) = 11) ∧ (h (h v0 14) (-1) = 20) ∧ (0 ≤ v1) ∧ (v1 < h (h v0 14) (-2)) ∧ Q (some (vI (h (h v0 14) v1))) h) ∧ ((v2 = 9) → (h v0 (-1) = 11) ∧ (h (h v0 16) (-1) = 20) ∧ (0 ≤ v1) ∧ (v1 < h (h v0 16) (-2)) ∧ Q (some (vI (h (h v0 16) v1))) h) ∧ ((v2 = 10) → (h v0 (-1) = 11) ∧ (h (h v0 17) (-1) = 20) ∧ (0 ≤ v1) ∧ (v1 < h (h v0 17) (-2)) ∧ Q (some (vI (h (h v0 17) v1))) h) ∧ ((v2 < 0 ∨ 10 < v2) → Q (some (vI (-1002))) h)) ∧ ((¬ (0 ≤ v1 ∧ v1 ≤ 3)) → Q (some (vI (-1001))) h)) : AW G mm_X10_end b 0 [(0, vR v0), (1, vI v1), (2, vI v2)] [] h Q := by
  refine aw_iload_n 1 dX10_end_0 rfl rfl ?_
  refine aw_callS (M' := mm_X10_isEnd) [vI v1] [] lk_X10_220 dX10_end_1 rfl (Nat.le_of_ble_eq_true rfl) ⟨by decide, by decide, Nat.zero_le _, Nat.zero_le _⟩ ?_
  refine pu_X10_isEnd ?_
  refine aw_if_ne (tgt := 11) dX10_end_4 (by decide) (fun hc => ?_) (fun hc => ?_)
  · have k := k.1 (b2i_n.mp hc)
    refine aw_iload_n 2 dX10_end_11 rfl rfl ?_
    rcases (show v2 = 0 ∨ v2 = 1 ∨ v2 = 2 ∨ v2 = 3 ∨ v2 = 4 ∨ v2 = 5 ∨ v2 = 6 ∨ v2 = 7 ∨ v2 = 8 ∨ v2 = 9 ∨ v2 = 10 ∨ (v2 < 0 ∨ 10 < v2) by omega) with hc | hc | hc | hc | hc | hc | hc | hc | hc | hc | hc | hc
    · have k := k.1 hc
      refine aw_tableIn (x := v2) (tgt := 72) dX10_end_12 (by omega) (by omega) (by rw [hc]; rfl) (by decide) ?_
      refine aw_aload_n 0 dX10_end_72 rfl rfl ?_
      obtain ⟨o1, k⟩ := k
      refine aw_getR dX10_end_73 fl_X10_22 rfl o1 (x := (h v0 4)) rfl ?_
      refine aw_iload_n 1 dX10_end_76 rfl rfl ?_
      obtain ⟨o2, k⟩ := k
      obtain ⟨o3, k⟩ := k
      obtain ⟨o4, k⟩ := k
      refine aw_iald dX10_end_77 o2 o3 o4 (x := (h (h v0 4) v1)) rfl ?_
      exact aw_iret dX10_end_78 rfl k
    · have k := k.2.1 hc
      refine aw_tableIn (x := v2) (tgt := 79) dX10_end_12 (by omega) (by omega) (by rw [hc]; rfl) (by decide) ?_
      refine aw_aload_n 0 dX10_end_79 rfl rfl ?_
      obtain ⟨o5, k⟩ := k
      refine aw_getR dX10_end_80 fl_X10_25 rfl o5 (x := (h v0 5)) rfl ?_
      refine aw_iload_n 1 dX10_end_83 rfl rfl ?_
      obtain ⟨o6, k⟩ := k
      obtain ⟨o7, k⟩ := k
      obtain ⟨o8, k⟩ := k
      refine aw_iald dX10_end_84 o6 o7 o8 (x := (h (h v0 5) v1)) rfl ?_
      exact aw_iret dX10_end_85 rfl k
    · have k := k.2.2.1 hc
      refine aw_tableIn (x := v2) (tgt := 86) dX10_end_12 (by omega) (by omega) (by rw [hc]; rfl) (by decide) ?_
      refine aw_aload_n 0 dX10_end_86 rfl rfl ?_
      obtain ⟨o9, k⟩ := k
      refine aw_getR dX10_end_87 fl_X10_28 rfl o9 (x := (h v0 6)) rfl ?_
      refine aw_iload_n 1 dX10_end_90 rfl rfl ?_
      obtain ⟨o10, k⟩ := k
      obtain ⟨o11, k⟩ := k
      obtain ⟨o12, k⟩ := k
      refine aw_iald dX10_end_91 o10 o11 o12 (x := (h (h v0 6) v1)) rfl ?_
      exact aw_iret dX10_end_92 rfl k
    · have k := k.2.2.2.1 hc
      refine aw_tableIn (x := v2) (tgt := 93) dX10_end_12 (by omega) (by omega) (by rw [hc]; rfl) (by decide) ?_
      refine aw_aload_n 0 dX10_end_93 rfl rfl ?_
      obtain ⟨o13, k⟩ := k
      refine aw_getR dX10_end_94 fl_X10_34 rfl o13 (x := (h v0 8)) rfl ?_
      refine aw_iload_n 1 dX10_end_97 rfl rfl ?_
      obtain ⟨o14, k⟩ := k
      obtain ⟨o15, k⟩ := k
      obtain ⟨o16, k⟩ := k
      refine aw_iald dX10_end_98 o14 o15 o16 (x := (h (h v0 8) v1)) rfl ?_
      exact aw_iret dX10_end_99 rfl k
    · have k := k.2.2.2.2.1 hc
      refine aw_tableIn (x := v2) (tgt := 100) dX10_end_12 (by omega) (by omega) (by rw [hc]; rfl) (by decide) ?_
      refine aw_aload_n 0 dX10_end_100 rfl rfl ?_
      obtain ⟨o17, k⟩ := k
      refine aw_getR dX10_end_101 fl_X10_37 rfl o17 (x := (h v0 9)) rfl ?_
      refine aw_iload_n 1 dX10_end_104 rfl rfl ?_
      obtain ⟨o18, k⟩ := k
      obtain ⟨o19, k⟩ := k
      obtain ⟨o20, k⟩ := k
      refine aw_iald dX10_end_105 o18 o19 o20 (x := (h (h v0 9) v1)) rfl ?_
      exact aw_iret dX10_end_106 rfl k
    · have k := k.2.2.2.2.2.1 hc
      refine aw_tableIn (x := v2) (tgt := 107) dX10_end_12 (by omega) (by omega) (by rw [hc]; rfl) (by decide) ?_
      refine aw_aload_n 0 dX10_end_107 rfl rfl ?_
      obtain ⟨o21, k⟩ := k
      refine aw_getR dX10_end_108 fl_X10_43 rfl o21 (x := (h v0 11)) rfl ?_
      refine aw_iload_n 1 dX10_end_111 rfl rfl ?_
      obtain ⟨o22, k⟩ := k
      obtain ⟨o23, k⟩ := k
      obtain ⟨o24, k⟩ := k
      refine aw_iald dX10_end_112 o22 o23 o24 (x := (h (h v0 11) v1)) rfl ?_
      exact aw_iret dX10_end_113 rfl k
    · have k := k.2.2.2.2.2.2.1 hc
      refine aw_tableIn (x := v2) (tgt := 114) dX10_end_12 (by omega) (by omega) (by rw [hc]; rfl) (by decide) ?_
      refine aw_aload_n 0 dX10_end_114 rfl rfl ?_
      obtain ⟨o25, k⟩ := k
      refine aw_getR dX10_end_115 fl_X10_46 rfl o25 (x := (h v0 12)) rfl ?_
      refine aw_iload_n 1 dX10_end_118 rfl rfl ?_
      obtain ⟨o26, k⟩ := k
      obtain ⟨o27, k⟩ := k
      obtain ⟨o28, k⟩ := k
      refine aw_iald dX10_end_119 o26 o27 o28 (x := (h (h v0 12) v1)) rfl ?_
      exact aw_iret dX10_end_120 rfl k
    · have k := k.2.2.2.2.2.2.2.1 hc
      refine aw_tableIn (x := v2) (tgt := 121) dX10_end_12 (by omega) (by omega) (by rw [hc]; rfl) (by decide) ?_
      refine aw_aload_n 0 dX10_end_121 rfl rfl ?_
      obtain ⟨o29, k⟩ := k
      refine aw_getR dX10_end_122 fl_X10_49 rfl o29 (x := (h v0 13)) rfl ?_
      refine aw_iload_n 1 dX10_end_125 rfl rfl ?_
      obtain ⟨o30, k⟩ := k
      obtain ⟨o31, k⟩ := k
      obtain ⟨o32, k⟩ := k
      refine aw_zald dX10_end_126 o30 o31 o32 (x := (h (h v0 13) v1)) rfl ?_
      refine aw_if_eq (tgt := 134) dX10_end_127 (by decide) (fun hc => ?_) (fun hc => ?_)
      · have k := k.1 hc
        refine aw_iconst dX10_end_134 ⟨by decide, by decide⟩ ?_
        exact aw_iret dX10_end_135 rfl k
      · have k := k.2 hc
        refine aw_iconst dX10_end_130 ⟨by decide, by decide⟩ ?_
        refine aw_goto (tgt := 135) dX10_end_131 (by decide) ?_
        exact aw_iret dX10_end_135 rfl k
    · have k := k.2.2.2.2.2.2.2.2.1 hc
      refine aw_tableIn (x := v2) (tgt := 136) dX10_end_12 (by omega) (by omega) (by rw [hc]; rfl) (by decide) ?_
      refine aw_aload_n 0 dX10_end_136 rfl rfl ?_
      obtain ⟨o33, k⟩ := k
      refine aw_getR dX10_end_137 fl_X10_53 rfl o33 (x := (h v0 14)) rfl ?_
      refine aw_iload_n 1 dX10_end_140 rfl rfl ?_
      obtain ⟨o34, k⟩ := k
      obtain ⟨o35, k⟩ := k
      obtain ⟨o36, k⟩ := k
      refine aw_iald dX10_end_141 o34 o35 o36 (x := (h (h v0 14) v1)) rfl ?_
      exact aw_iret dX10_end_142 rfl k
    · have k := k.2.2.2.2.2.2.2.2.2.1 hc
      refine aw_tableIn (x := v2) (tgt := 143) dX10_end_12 (by omega) (by omega) (by rw [hc]; rfl) (by decide) ?_
      refine aw_aload_n 0 dX10_end_143 rfl rfl ?_
      obtain ⟨o37, k⟩ := k
      refine aw_getR dX10_end_144 fl_X10_59 rfl o37 (x := (h v0 16)) rfl ?_
      refine aw_iload_n 1 dX10_end_147 rfl rfl ?_
      obtain ⟨o38, k⟩ := k
      obtain ⟨o39, k⟩ := k
      obtain ⟨o40, k⟩ := k
      refine aw_iald dX10_end_148 o38 o39 o40 (x := (h (h v0 16) v1)) rfl ?_
      exact aw_iret dX10_end_149 rfl k
    · have k := k.2.2.2.2.2.2.2.2.2.2.1 hc
      refine aw_tableIn (x := v2) (tgt := 150) dX10_end_12 (by omega) (by omega) (by rw [hc]; rfl) (by decide) ?_
      refine aw_aload_n 0 dX10_end_150 rfl rfl ?_
      obtain ⟨o41, k⟩ := k
      refine aw_getR dX10_end_151 fl_X10_62 rfl o41 (x := (h v0 17)) rfl ?_
      refine aw_iload_n 1 dX10_end_154 rfl rfl ?_
      obtain ⟨o42, k⟩ := k
      obtain ⟨o43, k⟩ := k
      obtain ⟨o44, k⟩ := k
      refine aw_iald dX10_end_155 o42 o43 o44 (x := (h (h v0 17) v1)) rfl ?_
      exact aw_iret dX10_end_156 rfl k
    · have k := k.2.2.2.2.2.2.2.2.2.2.2 hc
      refine aw_tableOut (x := v2) (tgt := 157) dX10_end_12 hc (by decide) ?_
      refine aw_sipush dX10_end_157 ⟨by decide, by decide⟩ (by decide) ?_
      exact aw_iret dX10_end_160 rfl k
  · have k := k.2 (b2i_0.mp hc)
    refine aw_sipush dX10_end_7 ⟨by decide, by decide⟩ (by decide) ?_
    exact aw_iret dX10_end_10 rfl k
theorem rn_X10_end {G : GG} {Q : Option VV → Hp → Prop} {v0 v1 v2 : Int} {h : Hp} (k : ((0 ≤ v1 ∧ v1 ≤ 3) → ((v2 = 0) → (h v0 (-1) = 11) ∧ (h (h v0 4) (-1) = 20) ∧ (0 ≤ v1) ∧ (v1 < h (h v0 4) (-2)) ∧ Q (some (vI (h (h v0 4) v1))) h) ∧ ((v2 = 1) → (h v0 (-1) = 11) ∧ (h (h v0 5) (-1) = 20) ∧ (0 ≤ v1) ∧ (v1 < h (h v0 5) (-2)) ∧ Q (some (vI (h (h v0 5) v1))) h) ∧ ((v2 = 2) → (h v0 (-1) = 11) ∧ (h (h v0 6) (-1) = 20) ∧ (0 ≤ v1) ∧ (v1 < h (h v0 6) (-2)) ∧ Q (some (vI (h (h v0 6) v1))) h) ∧ ((v2 = 3) → (h v0 (-1) = 11) ∧ (h (h v0 8) (-1) = 20) ∧ (0 ≤ v1) ∧ (v1 < h (h v0 8) (-2)) ∧ Q (some (vI (h (h v0 8) v1))) h) ∧ ((v2 = 4) → (h v0 (-1) = 11) ∧ (h (h v0 9) (-1) = 20) ∧ (0 ≤ v1) ∧ (v1 < h (h v0 9) (-2)) ∧ Q (some (vI (h (h v0 9) v1))) h) ∧ ((v2 = 5) → (h v0 (-1) = 11) ∧ (h (h v0 11) (-1) = 20) ∧ (0 ≤ v1) ∧ (v1 < h (h v0 11) (-2)) ∧ Q (some (vI (h (h v0 11) v1))) h) ∧ ((v2 = 6) → (h v0 (-1) = 11) ∧ (h (h v0 12) (-1) = 20) ∧ (0 ≤ v1) ∧ (v1 < h (h v0 12) (-2)) ∧ Q (some (vI (h (h v0 12) v1))) h) ∧ ((v2 = 7) → (h v0 (-1) = 11) ∧ (h (h v0 13) (-1) = 21) ∧ (0 ≤ v1) ∧ (v1 < h (h v0 13) (-2)) ∧ (((h (h v0 13) v1) = 0) → Q (some (vI 0)) h) ∧ ((¬ ((h (h v0 13) v1) = 0)) → Q (some (vI 1)) h)) ∧ ((v2 = 8) → (h v0 (-1) = 11) ∧ (h (h v0 14) (-1) = 20) ∧ (0 ≤ v1) ∧ (v1 < h (h v0 14) (-2)) ∧ Q (some (vI (h (h v0 14) v1))) h) ∧ ((v2 = 9) → (h v0 (-1) = 11) ∧ (h (h v0 16) (-1) = 20) ∧ (0 ≤ v1) ∧ (v1 < h (h v0 16) (-2)) ∧ Q (some (vI (h (h v0 16) v1))) h) ∧ ((v2 = 10) → (h v0 (-1) = 11) ∧ (h (h v0 17) (-1) = 20) ∧ (0 ≤ v1) ∧ (v1 < h (h v0 17) (-2)) ∧ Q (some (vI (h (h v0 17) v1))) h) ∧ ((v2 < 0 ∨ 10 < v2) → Q (some (vI (-1002))) h)) ∧ ((¬ (0 ≤ v1 ∧ v1 ≤ 3)) → Q (some (vI (-1001))) h)) : Runs G mm_X10_end [vR v0, vI v1, vI v2] h Q := Runs.of (by decide +kernel) (Nat.le_of_ble_eq_true rfl) (sg_X10_end_0 (b := (0, 0)) k)
set_option maxRecDepth 20000 in
theorem sg_X10_endAnew_0 {G : GG} {b : Nat × Nat} {Q : Option VV → Hp → Prop} {v0 v1 v2 : Int} {h : Hp} (k : (h v0 (-1) = 11) ∧ (h (h v0 4) (-1) = 20) ∧ (0 ≤ v1) ∧ (v1 < h (h v0 4) (-2)) ∧ ∀ h1, h1 = wr h (h v0 4) v1 v2 → (h (h v0 5) (-1) = 20) ∧ (v1 < h (h v0 5) (-2)) ∧ ∀ h2, h2 = wr h1 (h v0 5) v1 0 → (h (h v0 6) (-1) = 20) ∧ (v1 < h (h v0 6) (-2)) ∧ ∀ h3, h3 = wr h2 (h v0 6) v1 0 → (h (h v0 8) (-1) = 20) ∧ (v1 < h (h v0 8) (-2)) ∧ ∀ h4, h4 = wr h3 (h v0 8) v1 0 → (h (h v0 9) (-1) = 20) ∧ (v1 < h (h v0 9) (-2)) ∧ ∀ h5, h5 = wr h4 (h v0 9) v1 0 → (h (h v0 11) (-1) = 20) ∧ (v1 < h (h v0 11) (-2)) ∧ ∀ h6, h6 = wr h5 (h v0 11) v1 0 → (h (h v0 12) (-1) = 20) ∧ (v1 < h (h v0 12) (-2)) ∧ ∀ h7, h7 = wr h6 (h v0 12) v1 0 → (h (h v0 13) (-1) = 21) ∧ (v1 < h (h v0 13) (-2)) ∧ ∀ h8, h8 = wr h7 (h v0 13) v1 0 → (h (h v0 14) (-1) = 20) ∧ (v1 < h (h v0 14) (-2)) ∧ ∀ h9, h9 = wr h8 (h v0 14) v1 0 → Q none h9) : AW G mm_X10_endAnew b 0 [(0, vR v0), (1, vI v1), (2, vI v2)] [] h Q := by
  refine aw_aload_n 0 dX10_endAnew_0 rfl rfl ?_
  obtain ⟨o1, k⟩ := k
  refine aw_getR dX10_endAnew_1 fl_X10_22 rfl o1 (x := (h v0 4)) rfl ?_
  refine aw_iload_n 1 dX10_endAnew_4 rfl rfl ?_
  refine aw_iload_n 2 dX10_endAnew_5 rfl rfl ?_
  obtain ⟨o2, k⟩ := k
  obtain ⟨o3, k⟩ := k
  obtain ⟨o4, k⟩ := k
  refine aw_iast dX10_endAnew_6 o2 o3 o4 ?_
  refine aw_hp (fun h1 e5 => ?_)
  have k := k h1 e5
  refine aw_aload_n 0 dX10_endAnew_7 rfl rfl ?_
  have q6 := sh_w e5 o3 o1
  refine aw_getR dX10_endAnew_8 fl_X10_25 rfl q6 (x := (h v0 5)) (rd_a e5 v0 5 (ne_sh o2 o1 (by decide))) ?_
  refine aw_iload_n 1 dX10_endAnew_11 rfl rfl ?_
  refine aw_iconst dX10_endAnew_12 ⟨by decide, by decide⟩ ?_
  obtain ⟨o7, k⟩ := k
  obtain ⟨o8, k⟩ := k
  have q9 := sh_w e5 o3 o7
  refine aw_iast dX10_endAnew_13 q9 o3 (lt_l (ln_w e5 (h v0 5) o3) o8) ?_
  refine aw_hp (fun h2 e10 => ?_)
  have k := k h2 e10
  refine aw_aload_n 0 dX10_endAnew_14 rfl rfl ?_
  have q11 := sh_w e10 o3 q6
  refine aw_getR dX10_endAnew_15 fl_X10_28 rfl q11 (x := (h v0 6)) ((rd_a e10 v0 6 (ne_sh q9 q6 (by decide))).trans (rd_a e5 v0 6 (ne_sh o2 o1 (by decide)))) ?_
  refine aw_iload_n 1 dX10_endAnew_18 rfl rfl ?_
  refine aw_iconst dX10_endAnew_19 ⟨by decide, by decide⟩ ?_
  obtain ⟨o12, k⟩ := k
  obtain ⟨o13, k⟩ := k
  have q14 := sh_w e5 o3 o12
  have q15 := sh_w e10 o3 q14
  refine aw_iast dX10_endAnew_20 q15 o3 (lt_l ((ln_w e10 (h v0 6) o3).trans (ln_w e5 (h v0 6) o3)) o13) ?_
  refine aw_hp (fun h3 e16 => ?_)
  have k := k h3 e16
  refine aw_aload_n 0 dX10_endAnew_21 rfl rfl ?_
  have q17 := sh_w e16 o3 q11
  refine aw_getR dX10_endAnew_22 fl_X10_34 rfl q17 (x := (h v0 8)) ((rd_a e16 v0 8 (ne_sh q15 q11 (by decide))).trans ((rd_a e10 v0 8 (ne_sh q9 q6 (by decide))).trans (rd_a e5 v0 8 (ne_sh o2 o1 (by decide))))) ?_
  refine aw_iload_n 1 dX10_endAnew_25 rfl rfl ?_
  refine aw_iconst dX10_endAnew_26 ⟨by decide, by decide⟩ ?_
  obtain ⟨o18, k⟩ := k
  obtain ⟨o19, k⟩ := k
  have q20 := sh_w e5 o3 o18
  have q21 := sh_w e10 o3 q20
  have q22 := sh_w e16 o3 q21
  refine aw_iast dX10_endAnew_27 q22 o3 (lt_l ((ln_w e16 (h v0 8) o3).trans ((ln_w e10 (h v0 8) o3).trans (ln_w e5 (h v0 8) o3))) o19) ?_
  refine aw_hp (fun h4 e23 => ?_)
  have k := k h4 e23
  refine aw_aload_n 0 dX10_endAnew_28 rfl rfl ?_
  have q24 := sh_w e23 o3 q17
  refine aw_getR dX10_endAnew_29 fl_X10_37 rfl q24 (x := (h v0 9)) ((rd_a e23 v0 9 (ne_sh q22 q17 (by decide))).trans ((rd_a e16 v0 9 (ne_sh q15 q11 (by decide))).trans ((rd_a e10 v0 9 (ne_sh q9 q6 (by decide))).trans (rd_a e5 v0 9 (ne_sh o2 o1 (by decide)))))) ?_
  refine aw_iload_n 1 dX10_endAnew_32 rfl rfl ?_
  refine aw_iconst dX10_endAnew_33 ⟨by decide, by decide⟩ ?_
  obtain ⟨o25, k⟩ := k
  obtain ⟨o26, k⟩ := k
  have q27 := sh_w e5 o3 o25
  have q28 := sh_w e10 o3 q27
  have q29 := sh_w e16 o3 q28
  have q30 := sh_w e23 o3 q29
  refine aw_iast dX10_endAnew_34 q30 o3 (lt_l ((ln_w e23 (h v0 9) o3).trans ((ln_w e16 (h v0 9) o3).trans ((ln_w e10 (h v0 9) o3).trans (ln_w e5 (h v0 9) o3)))) o26) ?_
  refine aw_hp (fun h5 e31 => ?_)
  have k := k h5 e31
  refine aw_aload_n 0 dX10_endAnew_35 rfl rfl ?_
  have q32 := sh_w e31 o3 q24
  refine aw_getR dX10_endAnew_36 fl_X10_43 rfl q32 (x := (h v0 11)) ((rd_a e31 v0 11 (ne_sh q30 q24 (by decide))).trans ((rd_a e23 v0 11 (ne_sh q22 q17 (by decide))).trans ((rd_a e16 v0 11 (ne_sh q15 q11 (by decide))).trans ((rd_a e10 v0 11 (ne_sh q9 q6 (by decide))).trans (rd_a e5 v0 11 (ne_sh o2 o1 (by decide))))))) ?_
  refine aw_iload_n 1 dX10_endAnew_39 rfl rfl ?_
  refine aw_iconst dX10_endAnew_40 ⟨by decide, by decide⟩ ?_
  obtain ⟨o33, k⟩ := k
  obtain ⟨o34, k⟩ := k
  have q35 := sh_w e5 o3 o33
  have q36 := sh_w e10 o3 q35
  have q37 := sh_w e16 o3 q36
  have q38 := sh_w e23 o3 q37
  have q39 := sh_w e31 o3 q38
  refine aw_iast dX10_endAnew_41 q39 o3 (lt_l ((ln_w e31 (h v0 11) o3).trans ((ln_w e23 (h v0 11) o3).trans ((ln_w e16 (h v0 11) o3).trans ((ln_w e10 (h v0 11) o3).trans (ln_w e5 (h v0 11) o3))))) o34) ?_
  refine aw_hp (fun h6 e40 => ?_)
  have k := k h6 e40
  refine aw_aload_n 0 dX10_endAnew_42 rfl rfl ?_
  have q41 := sh_w e40 o3 q32
  refine aw_getR dX10_endAnew_43 fl_X10_46 rfl q41 (x := (h v0 12)) ((rd_a e40 v0 12 (ne_sh q39 q32 (by decide))).trans ((rd_a e31 v0 12 (ne_sh q30 q24 (by decide))).trans ((rd_a e23 v0 12 (ne_sh q22 q17 (by decide))).trans ((rd_a e16 v0 12 (ne_sh q15 q11 (by decide))).trans ((rd_a e10 v0 12 (ne_sh q9 q6 (by decide))).trans (rd_a e5 v0 12 (ne_sh o2 o1 (by decide)))))))) ?_
  refine aw_iload_n 1 dX10_endAnew_46 rfl rfl ?_
  refine aw_iconst dX10_endAnew_47 ⟨by decide, by decide⟩ ?_
  obtain ⟨o42, k⟩ := k
  obtain ⟨o43, k⟩ := k
  have q44 := sh_w e5 o3 o42
  have q45 := sh_w e10 o3 q44
  have q46 := sh_w e16 o3 q45
  have q47 := sh_w e23 o3 q46
  have q48 := sh_w e31 o3 q47
  have q49 := sh_w e40 o3 q48
  refine aw_iast dX10_endAnew_48 q49 o3 (lt_l ((ln_w e40 (h v0 12) o3).trans ((ln_w e31 (h v0 12) o3).trans ((ln_w e23 (h v0 12) o3).trans ((ln_w e16 (h v0 12) o3).trans ((ln_w e10 (h v0 12) o3).trans (ln_w e5 (h v0 12) o3)))))) o43) ?_
  refine aw_hp (fun h7 e50 => ?_)
  have k := k h7 e50
  refine aw_aload_n 0 dX10_endAnew_49 rfl rfl ?_
  have q51 := sh_w e50 o3 q41
  refine aw_getR dX10_endAnew_50 fl_X10_49 rfl q51 (x := (h v0 13)) ((rd_a e50 v0 13 (ne_sh q49 q41 (by decide))).trans ((rd_a e40 v0 13 (ne_sh q39 q32 (by decide))).trans ((rd_a e31 v0 13 (ne_sh q30 q24 (by decide))).trans ((rd_a e23 v0 13 (ne_sh q22 q17 (by decide))).trans ((rd_a e16 v0 13 (ne_sh q15 q11 (by decide))).trans ((rd_a e10 v0 13 (ne_sh q9 q6 (by decide))).trans (rd_a e5 v0 13 (ne_sh o2 o1 (by decide))))))))) ?_
  refine aw_iload_n 1 dX10_endAnew_53 rfl rfl ?_
  refine aw_iconst dX10_endAnew_54 ⟨by decide, by decide⟩ ?_
  obtain ⟨o52, k⟩ := k
  obtain ⟨o53, k⟩ := k
  have q54 := sh_w e5 o3 o52
  have q55 := sh_w e10 o3 q54
  have q56 := sh_w e16 o3 q55
  have q57 := sh_w e23 o3 q56
  have q58 := sh_w e31 o3 q57
  have q59 := sh_w e40 o3 q58
  have q60 := sh_w e50 o3 q59
  refine aw_zast dX10_endAnew_55 q60 o3 (lt_l ((ln_w e50 (h v0 13) o3).trans ((ln_w e40 (h v0 13) o3).trans ((ln_w e31 (h v0 13) o3).trans ((ln_w e23 (h v0 13) o3).trans ((ln_w e16 (h v0 13) o3).trans ((ln_w e10 (h v0 13) o3).trans (ln_w e5 (h v0 13) o3))))))) o53) (by decide) ?_
  refine aw_hp (fun h8 e61 => ?_)
  have k := k h8 e61
  refine aw_aload_n 0 dX10_endAnew_56 rfl rfl ?_
  have q62 := sh_w e61 o3 q51
  refine aw_getR dX10_endAnew_57 fl_X10_53 rfl q62 (x := (h v0 14)) ((rd_a e61 v0 14 (ne_sh q60 q51 (by decide))).trans ((rd_a e50 v0 14 (ne_sh q49 q41 (by decide))).trans ((rd_a e40 v0 14 (ne_sh q39 q32 (by decide))).trans ((rd_a e31 v0 14 (ne_sh q30 q24 (by decide))).trans ((rd_a e23 v0 14 (ne_sh q22 q17 (by decide))).trans ((rd_a e16 v0 14 (ne_sh q15 q11 (by decide))).trans ((rd_a e10 v0 14 (ne_sh q9 q6 (by decide))).trans (rd_a e5 v0 14 (ne_sh o2 o1 (by decide)))))))))) ?_
  refine aw_iload_n 1 dX10_endAnew_60 rfl rfl ?_
  refine aw_iconst dX10_endAnew_61 ⟨by decide, by decide⟩ ?_
  obtain ⟨o63, k⟩ := k
  obtain ⟨o64, k⟩ := k
  have q65 := sh_w e5 o3 o63
  have q66 := sh_w e10 o3 q65
  have q67 := sh_w e16 o3 q66
  have q68 := sh_w e23 o3 q67
  have q69 := sh_w e31 o3 q68
  have q70 := sh_w e40 o3 q69
  have q71 := sh_w e50 o3 q70
  have q72 := sh_w e61 o3 q71
  refine aw_iast dX10_endAnew_62 q72 o3 (lt_l ((ln_w e61 (h v0 14) o3).trans ((ln_w e50 (h v0 14) o3).trans ((ln_w e40 (h v0 14) o3).trans ((ln_w e31 (h v0 14) o3).trans ((ln_w e23 (h v0 14) o3).trans ((ln_w e16 (h v0 14) o3).trans ((ln_w e10 (h v0 14) o3).trans (ln_w e5 (h v0 14) o3)))))))) o64) ?_
  refine aw_hp (fun h9 e73 => ?_)
  have k := k h9 e73
  exact aw_vret dX10_endAnew_63 rfl k
theorem rn_X10_endAnew {G : GG} {Q : Option VV → Hp → Prop} {v0 v1 v2 : Int} {h : Hp} (k : (h v0 (-1) = 11) ∧ (h (h v0 4) (-1) = 20) ∧ (0 ≤ v1) ∧ (v1 < h (h v0 4) (-2)) ∧ ∀ h1, h1 = wr h (h v0 4) v1 v2 → (h (h v0 5) (-1) = 20) ∧ (v1 < h (h v0 5) (-2)) ∧ ∀ h2, h2 = wr h1 (h v0 5) v1 0 → (h (h v0 6) (-1) = 20) ∧ (v1 < h (h v0 6) (-2)) ∧ ∀ h3, h3 = wr h2 (h v0 6) v1 0 → (h (h v0 8) (-1) = 20) ∧ (v1 < h (h v0 8) (-2)) ∧ ∀ h4, h4 = wr h3 (h v0 8) v1 0 → (h (h v0 9) (-1) = 20) ∧ (v1 < h (h v0 9) (-2)) ∧ ∀ h5, h5 = wr h4 (h v0 9) v1 0 → (h (h v0 11) (-1) = 20) ∧ (v1 < h (h v0 11) (-2)) ∧ ∀ h6, h6 = wr h5 (h v0 11) v1 0 → (h (h v0 12) (-1) = 20) ∧ (v1 < h (h v0 12) (-2)) ∧ ∀ h7, h7 = wr h6 (h v0 12) v1 0 → (h (h v0 13) (-1) = 21) ∧ (v1 < h (h v0 13) (-2)) ∧ ∀ h8, h8 = wr h7 (h v0 13) v1 0 → (h (h v0 14) (-1) = 20) ∧ (v1 < h (h v0 14) (-2)) ∧ ∀ h9, h9 = wr h8 (h v0 14) v1 0 → Q none h9) : Runs G mm_X10_endAnew [vR v0, vI v1, vI v2] h Q := Runs.of (by decide +kernel) (Nat.le_of_ble_eq_true rfl) (sg_X10_endAnew_0 (b := (0, 0)) k)
set_option maxRecDepth 20000 in
theorem sg_X10_erase_0 {G : GG} {b : Nat × Nat} {Q : Option VV → Hp → Prop} {v0 : Int} {h : Hp} (k : (h v0 (-1) = 11) ∧ ∀ h1, h1 = wr h v0 31 0 → Q (some (vI (h v0 31))) h1) : AW G mm_X10_erase b 0 [(0, vR v0)] [] h Q := by
  refine aw_aload_n 0 dX10_erase_0 rfl rfl ?_
  obtain ⟨o1, k⟩ := k
  refine aw_getI dX10_erase_1 fl_X10_128 rfl o1 (x := (h v0 31)) rfl ?_
  refine aw_istore_n dX10_erase_4 rfl (by decide) ?_
  refine aw_aload_n 1 dX10_erase_5 rfl rfl ?_
  refine aw_iconst dX10_erase_6 ⟨by decide, by decide⟩ ?_
  refine aw_putI dX10_erase_7 fl_X10_128 (fun q hq hf => by cases hq; cases hf) rfl rfl o1 ?_
  refine aw_hp (fun h1 e2 => ?_)
  have k := k h1 e2
  refine aw_iload_n 0 dX10_erase_10 rfl rfl ?_
  exact aw_iret dX10_erase_11 rfl k
theorem rn_X10_erase {G : GG} {Q : Option VV → Hp → Prop} {v0 : Int} {h : Hp} (k : (h v0 (-1) = 11) ∧ ∀ h1, h1 = wr h v0 31 0 → Q (some (vI (h v0 31))) h1) : Runs G mm_X10_erase [vR v0] h Q := Runs.of (by decide +kernel) (Nat.le_of_ble_eq_true rfl) (sg_X10_erase_0 (b := (0, 0)) k)
set_option maxRecDepth 20000 in
theorem sg_X10_fault_0 {G : GG} {b : Nat × Nat} {Q : Option VV → Hp → Prop} {v0 : Int} {h : Hp} (k : (h v0 (-1) = 11) ∧ Runs G mm_X10_readsAll [vR v0, vI 0] h (fun r h' => AW G mm_X10_fault b 5 [(0, vR v0)] (r.toList ++ []) h' Q)) : AW G mm_X10_fault b 0 [(0, vR v0)] [] h Q := by
  refine aw_aload_n 0 dX10_fault_0 rfl rfl ?_
  refine aw_iconst dX10_fault_1 ⟨by decide, by decide⟩ ?_
  obtain ⟨o1, k⟩ := k
  refine aw_callV (M' := mm_X10_readsAll) 10 [vI 0] [] lk_X10_190 ⟨_, rfl, rfl⟩ dX10_fault_2 rfl (Nat.le_of_ble_eq_true rfl) ⟨by decide, by decide, Nat.zero_le _, Nat.zero_le _⟩ o1 ?_
  exact k
theorem rn_X10_fault {G : GG} {Q : Option VV → Hp → Prop} {v0 : Int} {h : Hp} (k : (h v0 (-1) = 11) ∧ Runs G mm_X10_readsAll [vR v0, vI 0] h (fun r h' => AW G mm_X10_fault (0, 0) 5 [(0, vR v0)] (r.toList ++ []) h' Q)) : Runs G mm_X10_fault [vR v0] h Q := Runs.of (by decide +kernel) (Nat.le_of_ble_eq_true rfl) (sg_X10_fault_0 (b := (0, 0)) k)
set_option maxRecDepth 20000 in
theorem sg_X10_fault_5 {G : GG} {b : Nat × Nat} {Q : Option VV → Hp → Prop} {v0 s0 : Int} {h : Hp} (k : ((s0 = 0) → (h v0 (-1) = 11) ∧ Q (some (vI (h v0 32))) h) ∧ ((¬ (s0 = 0)) → Q (some (vI (-1))) h)) : AW G mm_X10_fault b 5 [(0, vR v0)] [vI s0] h Q := by
  refine aw_if_eq (tgt := 12) dX10_fault_5 (by decide) (fun hc => ?_) (fun hc => ?_)
  · have k := k.1 hc
    refine aw_aload_n 0 dX10_fault_12 rfl rfl ?_
    obtain ⟨o1, k⟩ := k
    refine aw_getI dX10_fault_13 fl_X10_142 rfl o1 (x := (h v0 32)) rfl ?_
    exact aw_iret dX10_fault_16 rfl k
  · have k := k.2 hc
    refine aw_iconst dX10_fault_8 ⟨by decide, by decide⟩ ?_
    refine aw_goto (tgt := 16) dX10_fault_9 (by decide) ?_
    exact aw_iret dX10_fault_16 rfl k
set_option maxRecDepth 20000 in
theorem sg_X10_firstPacket_0 {G : GG} {b : Nat × Nat} {Q : Option VV → Hp → Prop} {v0 : Int} {h : Hp} (k : AW G mm_X10_firstPacket b 4 [(0, vR v0), (1, vI 0), (2, vI 1)] [] h Q) : AW G mm_X10_firstPacket b 0 [(0, vR v0)] [] h Q := by
  refine aw_iconst dX10_firstPacket_0 ⟨by decide, by decide⟩ ?_
  refine aw_istore_n dX10_firstPacket_1 rfl (by decide) ?_
  refine aw_iconst dX10_firstPacket_2 ⟨by decide, by decide⟩ ?_
  refine aw_istore_n dX10_firstPacket_3 rfl (by decide) ?_
  exact aw_sub [2, 1, 0] rfl k
theorem rn_X10_firstPacket {G : GG} {Q : Option VV → Hp → Prop} {v0 : Int} {h : Hp} (k : AW G mm_X10_firstPacket (0, 0) 4 [(0, vR v0), (1, vI 0), (2, vI 1)] [] h Q) : Runs G mm_X10_firstPacket [vR v0] h Q := Runs.of (by decide +kernel) (Nat.le_of_ble_eq_true rfl) (sg_X10_firstPacket_0 (b := (0, 0)) k)
set_option maxRecDepth 20000 in
theorem sg_X10_firstPacket_4 {G : GG} {b : Nat × Nat} {Q : Option VV → Hp → Prop} {v0 v1 v2 : Int} {h : Hp} (k : (h v0 (-1) = 11) ∧ (((h v0 21) ≤ v2) → Q (some (vI v1)) h) ∧ ((¬ ((h v0 21) ≤ v2)) → (inI (11 * v2)) ∧ (inI ((11 * v2) + 9)) ∧ (h (h v0 20) (-1) = 20) ∧ (0 ≤ ((11 * v2) + 9)) ∧ (((11 * v2) + 9) < h (h v0 20) (-2)) ∧ (inI (11 * v1)) ∧ (inI ((11 * v1) + 9)) ∧ (0 ≤ ((11 * v1) + 9)) ∧ (((11 * v1) + 9) < h (h v0 20) (-2)) ∧ (inI ((h (h v0 20) ((11 * v2) + 9)) - (h (h v0 20) ((11 * v1) + 9)))) ∧ ((((h (h v0 20) ((11 * v2) + 9)) - (h (h v0 20) ((11 * v1) + 9))) < 0) → (inI (v2 + 1)) ∧ AW G mm_X10_firstPacket b 4 [(0, vR v0), (1, vI v2), (2, vI (v2 + 1))] [] h Q) ∧ ((¬ (((h (h v0 20) ((11 * v2) + 9)) - (h (h v0 20) ((11 * v1) + 9))) < 0)) → ((¬ ((h (h v0 20) ((11 * v2) + 9)) - (h (h v0 20) ((11 * v1) + 9))) = 0) → (inI (v2 + 1)) ∧ AW G mm_X10_firstPacket b 4 [(0, vR v0), (1, vI v1), (2, vI (v2 + 1))] [] h Q) ∧ ((((h (h v0 20) ((11 * v2) + 9)) - (h (h v0 20) ((11 * v1) + 9))) = 0) → (inI ((11 * v2) + 10)) ∧ (0 ≤ ((11 * v2) + 10)) ∧ (((11 * v2) + 10) < h (h v0 20) (-2)) ∧ (inI ((11 * v1) + 10)) ∧ (0 ≤ ((11 * v1) + 10)) ∧ (((11 * v1) + 10) < h (h v0 20) (-2)) ∧ (((h (h v0 20) ((11 * v1) + 10)) ≤ (h (h v0 20) ((11 * v2) + 10))) → (inI (v2 + 1)) ∧ AW G mm_X10_firstPacket b 4 [(0, vR v0), (1, vI v1), (2, vI (v2 + 1))] [] h Q) ∧ ((¬ ((h (h v0 20) ((11 * v1) + 10)) ≤ (h (h v0 20) ((11 * v2) + 10)))) → (inI (v2 + 1)) ∧ AW G mm_X10_firstPacket b 4 [(0, vR v0), (1, vI v2), (2, vI (v2 + 1))] [] h Q))))) : AW G mm_X10_firstPacket b 4 [(0, vR v0), (1, vI v1), (2, vI v2)] [] h Q := by
  refine aw_iload_n 2 dX10_firstPacket_4 rfl rfl ?_
  refine aw_aload_n 0 dX10_firstPacket_5 rfl rfl ?_
  obtain ⟨o1, k⟩ := k
  refine aw_getI dX10_firstPacket_6 fl_X10_113 rfl o1 (x := (h v0 21)) rfl ?_
  refine aw_icmp_ge (tgt := 85) dX10_firstPacket_9 (by decide) (fun hc => ?_) (fun hc => ?_)
  · have k := k.1 hc
    refine aw_iload_n 1 dX10_firstPacket_85 rfl rfl ?_
    exact aw_iret dX10_firstPacket_86 rfl k
  · have k := k.2 hc
    refine aw_aload_n 0 dX10_firstPacket_12 rfl rfl ?_
    refine aw_getR dX10_firstPacket_13 fl_X10_68 rfl o1 (x := (h v0 20)) rfl ?_
    refine aw_bipush dX10_firstPacket_16 ⟨by decide, by decide⟩ (by decide) ?_
    refine aw_iload_n 2 dX10_firstPacket_18 rfl rfl ?_
    obtain ⟨o2, k⟩ := k
    refine aw_imul dX10_firstPacket_19 o2 ?_
    refine aw_bipush dX10_firstPacket_20 ⟨by decide, by decide⟩ (by decide) ?_
    obtain ⟨o3, k⟩ := k
    refine aw_iadd dX10_firstPacket_22 o3 ?_
    obtain ⟨o4, k⟩ := k
    obtain ⟨o5, k⟩ := k
    obtain ⟨o6, k⟩ := k
    refine aw_iald dX10_firstPacket_23 o4 o5 o6 (x := (h (h v0 20) ((11 * v2) + 9))) rfl ?_
    refine aw_aload_n 0 dX10_firstPacket_24 rfl rfl ?_
    refine aw_getR dX10_firstPacket_25 fl_X10_68 rfl o1 (x := (h v0 20)) rfl ?_
    refine aw_bipush dX10_firstPacket_28 ⟨by decide, by decide⟩ (by decide) ?_
    refine aw_iload_n 1 dX10_firstPacket_30 rfl rfl ?_
    obtain ⟨o7, k⟩ := k
    refine aw_imul dX10_firstPacket_31 o7 ?_
    refine aw_bipush dX10_firstPacket_32 ⟨by decide, by decide⟩ (by decide) ?_
    obtain ⟨o8, k⟩ := k
    refine aw_iadd dX10_firstPacket_34 o8 ?_
    obtain ⟨o9, k⟩ := k
    obtain ⟨o10, k⟩ := k
    refine aw_iald dX10_firstPacket_35 o4 o9 o10 (x := (h (h v0 20) ((11 * v1) + 9))) rfl ?_
    obtain ⟨o11, k⟩ := k
    refine aw_isub dX10_firstPacket_36 o11 ?_
    refine aw_istore_n dX10_firstPacket_37 rfl (by decide) ?_
    refine aw_iload_n 0 dX10_firstPacket_38 rfl rfl ?_
    refine aw_if_lt (tgt := 73) dX10_firstPacket_39 (by decide) (fun hc => ?_) (fun hc => ?_)
    · have k := k.1 hc
      refine aw_iload_n 3 dX10_firstPacket_73 rfl rfl ?_
      refine aw_goto (tgt := 78) dX10_firstPacket_74 (by decide) ?_
      refine aw_istore_n dX10_firstPacket_78 rfl (by decide) ?_
      obtain ⟨o12, k⟩ := k
      refine aw_iinc 3 dX10_firstPacket_79 rfl o12 (by decide) ?_
      refine aw_goto (tgt := 4) dX10_firstPacket_82 (by decide) ?_
      exact aw_sub [3, 1, 0] rfl k
    · have k := k.2 hc
      refine aw_iload_n 0 dX10_firstPacket_42 rfl rfl ?_
      refine aw_if_ne (tgt := 77) dX10_firstPacket_43 (by decide) (fun hc => ?_) (fun hc => ?_)
      · have k := k.1 hc
        refine aw_iload_n 2 dX10_firstPacket_77 rfl rfl ?_
        refine aw_istore_n dX10_firstPacket_78 rfl (by decide) ?_
        obtain ⟨o13, k⟩ := k
        refine aw_iinc 3 dX10_firstPacket_79 rfl o13 (by decide) ?_
        refine aw_goto (tgt := 4) dX10_firstPacket_82 (by decide) ?_
        exact aw_sub [3, 1, 0] rfl k
      · have k := k.2 hc
        refine aw_aload_n 1 dX10_firstPacket_46 rfl rfl ?_
        refine aw_getR dX10_firstPacket_47 fl_X10_68 rfl o1 (x := (h v0 20)) rfl ?_
        refine aw_bipush dX10_firstPacket_50 ⟨by decide, by decide⟩ (by decide) ?_
        refine aw_iload_n 3 dX10_firstPacket_52 rfl rfl ?_
        refine aw_imul dX10_firstPacket_53 o2 ?_
        refine aw_bipush dX10_firstPacket_54 ⟨by decide, by decide⟩ (by decide) ?_
        obtain ⟨o14, k⟩ := k
        refine aw_iadd dX10_firstPacket_56 o14 ?_
        obtain ⟨o15, k⟩ := k
        obtain ⟨o16, k⟩ := k
        refine aw_iald dX10_firstPacket_57 o4 o15 o16 (x := (h (h v0 20) ((11 * v2) + 10))) rfl ?_
        refine aw_aload_n 1 dX10_firstPacket_58 rfl rfl ?_
        refine aw_getR dX10_firstPacket_59 fl_X10_68 rfl o1 (x := (h v0 20)) rfl ?_
        refine aw_bipush dX10_firstPacket_62 ⟨by decide, by decide⟩ (by decide) ?_
        refine aw_iload_n 2 dX10_firstPacket_64 rfl rfl ?_
        refine aw_imul dX10_firstPacket_65 o7 ?_
        refine aw_bipush dX10_firstPacket_66 ⟨by decide, by decide⟩ (by decide) ?_
        obtain ⟨o17, k⟩ := k
        refine aw_iadd dX10_firstPacket_68 o17 ?_
        obtain ⟨o18, k⟩ := k
        obtain ⟨o19, k⟩ := k
        refine aw_iald dX10_firstPacket_69 o4 o18 o19 (x := (h (h v0 20) ((11 * v1) + 10))) rfl ?_
        refine aw_icmp_ge (tgt := 77) dX10_firstPacket_70 (by decide) (fun hc => ?_) (fun hc => ?_)
        · have k := k.1 hc
          refine aw_iload_n 2 dX10_firstPacket_77 rfl rfl ?_
          refine aw_istore_n dX10_firstPacket_78 rfl (by decide) ?_
          obtain ⟨o20, k⟩ := k
          refine aw_iinc 3 dX10_firstPacket_79 rfl o20 (by decide) ?_
          refine aw_goto (tgt := 4) dX10_firstPacket_82 (by decide) ?_
          exact aw_sub [3, 1, 0] rfl k
        · have k := k.2 hc
          refine aw_iload_n 3 dX10_firstPacket_73 rfl rfl ?_
          refine aw_goto (tgt := 78) dX10_firstPacket_74 (by decide) ?_
          refine aw_istore_n dX10_firstPacket_78 rfl (by decide) ?_
          obtain ⟨o21, k⟩ := k
          refine aw_iinc 3 dX10_firstPacket_79 rfl o21 (by decide) ?_
          refine aw_goto (tgt := 4) dX10_firstPacket_82 (by decide) ?_
          exact aw_sub [3, 1, 0] rfl k
