/-! printed by writeseg.py: segments of methods -/
set_option maxRecDepth 20000 in
theorem sg_X10_accesses_0 {G : GG} {b : Nat × Nat} {Q : Option VV → Hp → Prop} {v0 v1 v2 v3 : Int} {h : Hp} (k : (0 ≤ v1) ∧ (inI (4 * (v1 % 2))) ∧ (h v0 (-1) = 11) ∧ (h (h v0 38) (-1) = 20) ∧ (4 < h (h v0 38) (-2)) ∧ (inI ((4 * (v1 % 2)) + (h (h v0 38) 4))) ∧ (5 < h (h v0 38) (-2)) ∧ Runs G mm_X10_reasonOf [vR v0, vI ((4 * (v1 % 2)) + (h (h v0 38) 4)), vI (h (h v0 38) 5), vI v3] h (fun r h' => AW G mm_X10_accesses b 27 [(0, vR v0), (1, vI v1), (2, vI v2), (3, vI v3), (4, vI ((4 * (v1 % 2)) + (h (h v0 38) 4)))] (r.toList ++ []) h' Q)) : AW G mm_X10_accesses b 0 [(0, vR v0), (1, vI v1), (2, vI v2), (3, vI v3)] [] h Q := by
  refine aw_iconst dX10_accesses_0 ⟨by decide, by decide⟩ ?_
  refine aw_iload_n 1 dX10_accesses_1 rfl rfl ?_
  refine aw_iconst dX10_accesses_2 ⟨by decide, by decide⟩ ?_
  obtain ⟨o1, k⟩ := k
  refine aw_irem dX10_accesses_3 o1 (by decide) ?_
  obtain ⟨o2, k⟩ := k
  refine aw_imul dX10_accesses_4 o2 ?_
  refine aw_aload_n 0 dX10_accesses_5 rfl rfl ?_
  obtain ⟨o3, k⟩ := k
  refine aw_getR dX10_accesses_6 fl_X10_92 rfl o3 (x := (h v0 38)) rfl ?_
  refine aw_iconst dX10_accesses_9 ⟨by decide, by decide⟩ ?_
  obtain ⟨o4, k⟩ := k
  obtain ⟨o5, k⟩ := k
  refine aw_iald dX10_accesses_10 o4 (by decide) o5 (x := (h (h v0 38) 4)) rfl ?_
  obtain ⟨o6, k⟩ := k
  refine aw_iadd dX10_accesses_11 o6 ?_
  refine aw_istore dX10_accesses_12 (by decide) ?_
  refine aw_aload_n 1 dX10_accesses_14 rfl rfl ?_
  refine aw_iload 0 dX10_accesses_15 rfl ?_
  refine aw_aload_n 1 dX10_accesses_17 rfl rfl ?_
  refine aw_getR dX10_accesses_18 fl_X10_92 rfl o3 (x := (h v0 38)) rfl ?_
  refine aw_iconst dX10_accesses_21 ⟨by decide, by decide⟩ ?_
  obtain ⟨o7, k⟩ := k
  refine aw_iald dX10_accesses_22 o4 (by decide) o7 (x := (h (h v0 38) 5)) rfl ?_
  refine aw_iload_n 4 dX10_accesses_23 rfl rfl ?_
  refine aw_callV (M' := mm_X10_reasonOf) 10 [vI ((4 * (v1 % 2)) + (h (h v0 38) 4)), vI (h (h v0 38) 5), vI v3] [] lk_X10_265 ⟨_, rfl, rfl⟩ dX10_accesses_24 rfl (Nat.le_of_ble_eq_true rfl) ⟨by decide, by decide, Nat.zero_le _, Nat.zero_le _⟩ o3 ?_
  exact k.mono (fun _ _ z => aw_sub [1, 2, 3, 4, 0] rfl z)
theorem rn_X10_accesses {G : GG} {Q : Option VV → Hp → Prop} {v0 v1 v2 v3 : Int} {h : Hp} (k : (0 ≤ v1) ∧ (inI (4 * (v1 % 2))) ∧ (h v0 (-1) = 11) ∧ (h (h v0 38) (-1) = 20) ∧ (4 < h (h v0 38) (-2)) ∧ (inI ((4 * (v1 % 2)) + (h (h v0 38) 4))) ∧ (5 < h (h v0 38) (-2)) ∧ Runs G mm_X10_reasonOf [vR v0, vI ((4 * (v1 % 2)) + (h (h v0 38) 4)), vI (h (h v0 38) 5), vI v3] h (fun r h' => AW G mm_X10_accesses (0, 0) 27 [(0, vR v0), (1, vI v1), (2, vI v2), (3, vI v3), (4, vI ((4 * (v1 % 2)) + (h (h v0 38) 4)))] (r.toList ++ []) h' Q)) : Runs G mm_X10_accesses [vR v0, vI v1, vI v2, vI v3] h Q := Runs.of (by decide +kernel) (Nat.le_of_ble_eq_true rfl) (sg_X10_accesses_0 (b := (0, 0)) k)
set_option maxRecDepth 20000 in
theorem sg_X10_accesses_27 {G : GG} {b : Nat × Nat} {Q : Option VV → Hp → Prop} {v0 v1 v2 v3 v4 s0 : Int} {h : Hp} (k : ((s0 ≤ 0) → (0 ≤ v1) ∧ (inI (12 * (v1 % 2))) ∧ (h v0 (-1) = 11) ∧ (h (h v0 1) (-1) = 20) ∧ (0 ≤ v4) ∧ (v4 < h (h v0 1) (-2)) ∧ (inI ((12 * (v1 % 2)) + (h (h v0 1) v4))) ∧ (h (h v0 38) (-1) = 20) ∧ (5 < h (h v0 38) (-2)) ∧ (inI (((12 * (v1 % 2)) + (h (h v0 1) v4)) + (h (h v0 38) 5))) ∧ (h (h v0 0) (-1) = 20) ∧ (0 ≤ (((12 * (v1 % 2)) + (h (h v0 1) v4)) + (h (h v0 38) 5))) ∧ ((((12 * (v1 % 2)) + (h (h v0 1) v4)) + (h (h v0 38) 5)) < h (h v0 0) (-2)) ∧ ((¬ v3 = 1) → ((¬ v3 = 3) → ((¬ v3 = 4) → AW G mm_X10_accesses b 164 [(0, vR v0), (1, vI v1), (2, vI v2), (3, vI v3), (7, vI (h (h v0 0) (((12 * (v1 % 2)) + (h (h v0 1) v4)) + (h (h v0 38) 5))))] [] h Q) ∧ ((v3 = 4) → (6 < h (h v0 38) (-2)) ∧ ((¬ (h (h v0 0) (((12 * (v1 % 2)) + (h (h v0 1) v4)) + (h (h v0 38) 5))) = (h (h v0 38) 6)) → AW G mm_X10_accesses b 164 [(0, vR v0), (1, vI v1), (2, vI v2), (3, vI v3), (7, vI (h (h v0 0) (((12 * (v1 % 2)) + (h (h v0 1) v4)) + (h (h v0 38) 5))))] [] h Q) ∧ (((h (h v0 0) (((12 * (v1 % 2)) + (h (h v0 1) v4)) + (h (h v0 38) 5))) = (h (h v0 38) 6)) → (7 < h (h v0 38) (-2)) ∧ ∀ h1, h1 = wr h (h v0 0) (((12 * (v1 % 2)) + (h (h v0 1) v4)) + (h (h v0 38) 5)) (h (h v0 38) 7) → AW G mm_X10_accesses b 164 [(0, vR v0), (1, vI v1), (2, vI v2), (3, vI v3), (7, vI (h (h v0 0) (((12 * (v1 % 2)) + (h (h v0 1) v4)) + (h (h v0 38) 5))))] [] h1 Q))) ∧ ((v3 = 3) → (6 < h (h v0 38) (-2)) ∧ (inI ((h (h v0 0) (((12 * (v1 % 2)) + (h (h v0 1) v4)) + (h (h v0 38) 5))) + (h (h v0 38) 6))) ∧ (0 ≤ ((h (h v0 0) (((12 * (v1 % 2)) + (h (h v0 1) v4)) + (h (h v0 38) 5))) + (h (h v0 38) 6))) ∧ ∀ h1, h1 = wr h (h v0 0) (((12 * (v1 % 2)) + (h (h v0 1) v4)) + (h (h v0 38) 5)) (((h (h v0 0) (((12 * (v1 % 2)) + (h (h v0 1) v4)) + (h (h v0 38) 5))) + (h (h v0 38) 6)) % 10000) → AW G mm_X10_accesses b 164 [(0, vR v0), (1, vI v1), (2, vI v2), (3, vI v3), (7, vI (h (h v0 0) (((12 * (v1 % 2)) + (h (h v0 1) v4)) + (h (h v0 38) 5))))] [] h1 Q)) ∧ ((v3 = 1) → (6 < h (h v0 38) (-2)) ∧ ∀ h1, h1 = wr h (h v0 0) (((12 * (v1 % 2)) + (h (h v0 1) v4)) + (h (h v0 38) 5)) (h (h v0 38) 6) → AW G mm_X10_accesses b 164 [(0, vR v0), (1, vI v1), (2, vI v2), (3, vI v3), (7, vI (h (h v0 0) (((12 * (v1 % 2)) + (h (h v0 1) v4)) + (h (h v0 38) 5))))] [] h1 Q)) ∧ ((¬ (s0 ≤ 0)) → (h v0 (-1) = 11) ∧ Runs G mm_X10_sends [vR v0, vI v1, vI 4, vI v2, vI s0, vI (-1)] h (fun r h' => AW G mm_X10_accesses b 44 [(0, vR v0), (1, vI v1)] (r.toList ++ []) h' Q))) : AW G mm_X10_accesses b 27 [(0, vR v0), (1, vI v1), (2, vI v2), (3, vI v3), (4, vI v4)] [vI s0] h Q := by
  refine aw_istore dX10_accesses_27 (by decide) ?_
  refine aw_iload 0 dX10_accesses_29 rfl ?_
  refine aw_if_le (tgt := 50) dX10_accesses_31 (by decide) (fun hc => ?_) (fun hc => ?_)
  · have k := k.1 hc
    refine aw_bipush dX10_accesses_50 ⟨by decide, by decide⟩ (by decide) ?_
    refine aw_iload_n 2 dX10_accesses_52 rfl rfl ?_
    refine aw_iconst dX10_accesses_53 ⟨by decide, by decide⟩ ?_
    obtain ⟨o1, k⟩ := k
    refine aw_irem dX10_accesses_54 o1 (by decide) ?_
    obtain ⟨o2, k⟩ := k
    refine aw_imul dX10_accesses_55 o2 ?_
    refine aw_aload_n 1 dX10_accesses_56 rfl rfl ?_
    obtain ⟨o3, k⟩ := k
    refine aw_getR dX10_accesses_57 fl_X10_13 rfl o3 (x := (h v0 1)) rfl ?_
    refine aw_iload 5 dX10_accesses_60 rfl ?_
    obtain ⟨o4, k⟩ := k
    obtain ⟨o5, k⟩ := k
    obtain ⟨o6, k⟩ := k
    refine aw_iald dX10_accesses_62 o4 o5 o6 (x := (h (h v0 1) v4)) rfl ?_
    obtain ⟨o7, k⟩ := k
    refine aw_iadd dX10_accesses_63 o7 ?_
    refine aw_aload_n 1 dX10_accesses_64 rfl rfl ?_
    refine aw_getR dX10_accesses_65 fl_X10_92 rfl o3 (x := (h v0 38)) rfl ?_
    refine aw_iconst dX10_accesses_68 ⟨by decide, by decide⟩ ?_
    obtain ⟨o8, k⟩ := k
    obtain ⟨o9, k⟩ := k
    refine aw_iald dX10_accesses_69 o8 (by decide) o9 (x := (h (h v0 38) 5)) rfl ?_
    obtain ⟨o10, k⟩ := k
    refine aw_iadd dX10_accesses_70 o10 ?_
    refine aw_istore dX10_accesses_71 (by decide) ?_
    refine aw_aload_n 2 dX10_accesses_73 rfl rfl ?_
    refine aw_getR dX10_accesses_74 fl_X10_7 rfl o3 (x := (h v0 0)) rfl ?_
    refine aw_iload 0 dX10_accesses_77 rfl ?_
    obtain ⟨o11, k⟩ := k
    obtain ⟨o12, k⟩ := k
    obtain ⟨o13, k⟩ := k
    refine aw_iald dX10_accesses_79 o11 o12 o13 (x := (h (h v0 0) (((12 * (v1 % 2)) + (h (h v0 1) v4)) + (h (h v0 38) 5)))) rfl ?_
    refine aw_istore dX10_accesses_80 (by decide) ?_
    refine aw_iload_n 6 dX10_accesses_82 rfl rfl ?_
    refine aw_iconst dX10_accesses_83 ⟨by decide, by decide⟩ ?_
    refine aw_icmp_ne (tgt := 104) dX10_accesses_84 (by decide) (fun hc => ?_) (fun hc => ?_)
    · have k := k.1 hc
      refine aw_iload_n 6 dX10_accesses_104 rfl rfl ?_
      refine aw_iconst dX10_accesses_105 ⟨by decide, by decide⟩ ?_
      refine aw_icmp_ne (tgt := 133) dX10_accesses_106 (by decide) (fun hc => ?_) (fun hc => ?_)
      · have k := k.1 hc
        refine aw_iload_n 6 dX10_accesses_133 rfl rfl ?_
        refine aw_iconst dX10_accesses_134 ⟨by decide, by decide⟩ ?_
        refine aw_icmp_ne (tgt := 164) dX10_accesses_135 (by decide) (fun hc => ?_) (fun hc => ?_)
        · have k := k.1 hc
          exact aw_sub [3, 4, 5, 6, 0] rfl k
        · have k := k.2 hc
          refine aw_iload 0 dX10_accesses_138 rfl ?_
          refine aw_aload_n 3 dX10_accesses_140 rfl rfl ?_
          refine aw_getR dX10_accesses_141 fl_X10_92 rfl o3 (x := (h v0 38)) rfl ?_
          refine aw_bipush dX10_accesses_144 ⟨by decide, by decide⟩ (by decide) ?_
          obtain ⟨o14, k⟩ := k
          refine aw_iald dX10_accesses_146 o8 (by decide) o14 (x := (h (h v0 38) 6)) rfl ?_
          refine aw_icmp_ne (tgt := 164) dX10_accesses_147 (by decide) (fun hc => ?_) (fun hc => ?_)
          · have k := k.1 hc
            exact aw_sub [3, 4, 5, 6, 0] rfl k
          · have k := k.2 hc
            refine aw_aload_n 3 dX10_accesses_150 rfl rfl ?_
            refine aw_getR dX10_accesses_151 fl_X10_7 rfl o3 (x := (h v0 0)) rfl ?_
            refine aw_iload 1 dX10_accesses_154 rfl ?_
            refine aw_aload_n 3 dX10_accesses_156 rfl rfl ?_
            refine aw_getR dX10_accesses_157 fl_X10_92 rfl o3 (x := (h v0 38)) rfl ?_
            refine aw_bipush dX10_accesses_160 ⟨by decide, by decide⟩ (by decide) ?_
            obtain ⟨o15, k⟩ := k
            refine aw_iald dX10_accesses_162 o8 (by decide) o15 (x := (h (h v0 38) 7)) rfl ?_
            refine aw_iast dX10_accesses_163 o11 o12 o13 ?_
            refine aw_hp (fun h1 e16 => ?_)
            have k := k h1 e16
            exact aw_sub [3, 4, 5, 6, 0] rfl k
      · have k := k.2 hc
        refine aw_aload_n 3 dX10_accesses_109 rfl rfl ?_
        refine aw_getR dX10_accesses_110 fl_X10_7 rfl o3 (x := (h v0 0)) rfl ?_
        refine aw_iload 1 dX10_accesses_113 rfl ?_
        refine aw_iload 0 dX10_accesses_115 rfl ?_
        refine aw_aload_n 3 dX10_accesses_117 rfl rfl ?_
        refine aw_getR dX10_accesses_118 fl_X10_92 rfl o3 (x := (h v0 38)) rfl ?_
        refine aw_bipush dX10_accesses_121 ⟨by decide, by decide⟩ (by decide) ?_
        obtain ⟨o17, k⟩ := k
        refine aw_iald dX10_accesses_123 o8 (by decide) o17 (x := (h (h v0 38) 6)) rfl ?_
        obtain ⟨o18, k⟩ := k
        refine aw_iadd dX10_accesses_124 o18 ?_
        refine aw_sipush dX10_accesses_125 ⟨by decide, by decide⟩ (by decide) ?_
        obtain ⟨o19, k⟩ := k
        refine aw_irem dX10_accesses_128 o19 (by decide) ?_
        refine aw_iast dX10_accesses_129 o11 o12 o13 ?_
        refine aw_hp (fun h1 e20 => ?_)
        have k := k h1 e20
        refine aw_goto (tgt := 164) dX10_accesses_130 (by decide) ?_
        exact aw_sub [3, 4, 5, 6, 0] rfl k
    · have k := k.2 hc
      refine aw_aload_n 3 dX10_accesses_87 rfl rfl ?_
      refine aw_getR dX10_accesses_88 fl_X10_7 rfl o3 (x := (h v0 0)) rfl ?_
      refine aw_iload 1 dX10_accesses_91 rfl ?_
      refine aw_aload_n 3 dX10_accesses_93 rfl rfl ?_
      refine aw_getR dX10_accesses_94 fl_X10_92 rfl o3 (x := (h v0 38)) rfl ?_
      refine aw_bipush dX10_accesses_97 ⟨by decide, by decide⟩ (by decide) ?_
      obtain ⟨o21, k⟩ := k
      refine aw_iald dX10_accesses_99 o8 (by decide) o21 (x := (h (h v0 38) 6)) rfl ?_
      refine aw_iast dX10_accesses_100 o11 o12 o13 ?_
      refine aw_hp (fun h1 e22 => ?_)
      have k := k h1 e22
      refine aw_goto (tgt := 164) dX10_accesses_101 (by decide) ?_
      exact aw_sub [3, 4, 5, 6, 0] rfl k
  · have k := k.2 hc
    refine aw_aload_n 1 dX10_accesses_34 rfl rfl ?_
    refine aw_iload_n 2 dX10_accesses_35 rfl rfl ?_
    refine aw_iconst dX10_accesses_36 ⟨by decide, by decide⟩ ?_
    refine aw_iload_n 3 dX10_accesses_37 rfl rfl ?_
    refine aw_iload 0 dX10_accesses_38 rfl ?_
    refine aw_iconst dX10_accesses_40 ⟨by decide, by decide⟩ ?_
    obtain ⟨o23, k⟩ := k
    refine aw_callV (M' := mm_X10_sends) 10 [vI v1, vI 4, vI v2, vI s0, vI (-1)] [] lk_X10_248 ⟨_, rfl, rfl⟩ dX10_accesses_41 rfl (Nat.le_of_ble_eq_true rfl) ⟨by decide, by decide, Nat.zero_le _, Nat.zero_le _⟩ o23 ?_
    exact k.mono (fun _ _ z => aw_sub [1, 2] rfl z)
set_option maxRecDepth 20000 in
theorem sg_X10_accesses_164 {G : GG} {b : Nat × Nat} {Q : Option VV → Hp → Prop} {v0 v1 v2 v3 v7 : Int} {h : Hp} (k : ((v3 ≤ 2) → AW G mm_X10_accesses b 177 [(0, vR v0), (1, vI v1), (2, vI v2), (3, vI v3), (7, vI v7)] [] h Q) ∧ ((¬ (v3 ≤ 2)) → (h v0 (-1) = 11) ∧ Runs G mm_X10_changesMore [vR v0, vI v1, vI v2, vI v7] h (fun r h' => AW G mm_X10_accesses b 177 [(0, vR v0), (1, vI v1), (2, vI v2), (3, vI v3), (7, vI v7)] (r.toList ++ []) h' Q))) : AW G mm_X10_accesses b 164 [(0, vR v0), (1, vI v1), (2, vI v2), (3, vI v3), (7, vI v7)] [] h Q := by
  refine aw_iload_n 3 dX10_accesses_164 rfl rfl ?_
  refine aw_iconst dX10_accesses_165 ⟨by decide, by decide⟩ ?_
  refine aw_icmp_le (tgt := 177) dX10_accesses_166 (by decide) (fun hc => ?_) (fun hc => ?_)
  · have k := k.1 hc
    exact k
  · have k := k.2 hc
    refine aw_aload_n 0 dX10_accesses_169 rfl rfl ?_
    refine aw_iload_n 1 dX10_accesses_170 rfl rfl ?_
    refine aw_iload_n 2 dX10_accesses_171 rfl rfl ?_
    refine aw_iload 4 dX10_accesses_172 rfl ?_
    obtain ⟨o1, k⟩ := k
    refine aw_callV (M' := mm_X10_changesMore) 10 [vI v1, vI v2, vI v7] [] lk_X10_269 ⟨_, rfl, rfl⟩ dX10_accesses_174 rfl (Nat.le_of_ble_eq_true rfl) ⟨by decide, by decide, Nat.zero_le _, Nat.zero_le _⟩ o1 ?_
    exact k
set_option maxRecDepth 20000 in
theorem sg_X10_accesses_44 {G : GG} {b : Nat × Nat} {Q : Option VV → Hp → Prop} {v0 v1 : Int} {h : Hp} (k : (h v0 (-1) = 11) ∧ Runs G mm_X10_breaks [vR v0, vI v1] h (fun r h' => AW G mm_X10_accesses b 49 [] (r.toList ++ []) h' Q)) : AW G mm_X10_accesses b 44 [(0, vR v0), (1, vI v1)] [] h Q := by
  refine aw_aload_n 0 dX10_accesses_44 rfl rfl ?_
  refine aw_iload_n 1 dX10_accesses_45 rfl rfl ?_
  obtain ⟨o1, k⟩ := k
  refine aw_callV (M' := mm_X10_breaks) 10 [vI v1] [] lk_X10_223 ⟨_, rfl, rfl⟩ dX10_accesses_46 rfl (Nat.le_of_ble_eq_true rfl) ⟨by decide, by decide, Nat.zero_le _, Nat.zero_le _⟩ o1 ?_
  exact k.mono (fun _ _ z => aw_sub [] rfl z)
set_option maxRecDepth 20000 in
theorem sg_X10_accesses_177 {G : GG} {b : Nat × Nat} {Q : Option VV → Hp → Prop} {v0 v1 v2 v3 v7 : Int} {h : Hp} (k : (h v0 (-1) = 11) ∧ (h (h v0 8) (-1) = 20) ∧ (0 ≤ v1) ∧ (v1 < h (h v0 8) (-2)) ∧ (((h (h v0 8) v1) ≤ v2) → ((¬ v3 = 1) → Runs G mm_X10_passes [vR v0, vI v1, vI v2, vI v7] h (fun r h' => AW G mm_X10_accesses b 217 [] (r.toList ++ []) h' Q)) ∧ ((v3 = 1) → Runs G mm_X10_passes [vR v0, vI v1, vI v2, vI 0] h (fun r h' => AW G mm_X10_accesses b 217 [] (r.toList ++ []) h' Q))) ∧ ((¬ ((h (h v0 8) v1) ≤ v2)) → Runs G mm_X10_sends [vR v0, vI v1, vI 1, vI v2, vI v7, vI (-1)] h (fun r h' => AW G mm_X10_accesses b 197 [] (r.toList ++ []) h' Q))) : AW G mm_X10_accesses b 177 [(0, vR v0), (1, vI v1), (2, vI v2), (3, vI v3), (7, vI v7)] [] h Q := by
  refine aw_iload_n 2 dX10_accesses_177 rfl rfl ?_
  refine aw_aload_n 0 dX10_accesses_178 rfl rfl ?_
  obtain ⟨o1, k⟩ := k
  refine aw_getR dX10_accesses_179 fl_X10_34 rfl o1 (x := (h v0 8)) rfl ?_
  refine aw_iload_n 1 dX10_accesses_182 rfl rfl ?_
  obtain ⟨o2, k⟩ := k
  obtain ⟨o3, k⟩ := k
  obtain ⟨o4, k⟩ := k
  refine aw_iald dX10_accesses_183 o2 o3 o4 (x := (h (h v0 8) v1)) rfl ?_
  refine aw_icmp_ge (tgt := 200) dX10_accesses_184 (by decide) (fun hc => ?_) (fun hc => ?_)
  · have k := k.1 hc
    refine aw_aload_n 0 dX10_accesses_200 rfl rfl ?_
    refine aw_iload_n 1 dX10_accesses_201 rfl rfl ?_
    refine aw_iload_n 2 dX10_accesses_202 rfl rfl ?_
    refine aw_iload_n 3 dX10_accesses_203 rfl rfl ?_
    refine aw_iconst dX10_accesses_204 ⟨by decide, by decide⟩ ?_
    refine aw_icmp_ne (tgt := 212) dX10_accesses_205 (by decide) (fun hc => ?_) (fun hc => ?_)
    · have k := k.1 hc
      refine aw_iload 4 dX10_accesses_212 rfl ?_
      refine aw_callV (M' := mm_X10_passes) 10 [vI v1, vI v2, vI v7] [] lk_X10_262 ⟨_, rfl, rfl⟩ dX10_accesses_214 rfl (Nat.le_of_ble_eq_true rfl) ⟨by decide, by decide, Nat.zero_le _, Nat.zero_le _⟩ o1 ?_
      exact k.mono (fun _ _ z => aw_sub [] rfl z)
    · have k := k.2 hc
      refine aw_iconst dX10_accesses_208 ⟨by decide, by decide⟩ ?_
      refine aw_goto (tgt := 214) dX10_accesses_209 (by decide) ?_
      refine aw_callV (M' := mm_X10_passes) 10 [vI v1, vI v2, vI 0] [] lk_X10_262 ⟨_, rfl, rfl⟩ dX10_accesses_214 rfl (Nat.le_of_ble_eq_true rfl) ⟨by decide, by decide, Nat.zero_le _, Nat.zero_le _⟩ o1 ?_
      exact k.mono (fun _ _ z => aw_sub [] rfl z)
  · have k := k.2 hc
    refine aw_aload_n 0 dX10_accesses_187 rfl rfl ?_
    refine aw_iload_n 1 dX10_accesses_188 rfl rfl ?_
    refine aw_iconst dX10_accesses_189 ⟨by decide, by decide⟩ ?_
    refine aw_iload_n 2 dX10_accesses_190 rfl rfl ?_
    refine aw_iload 4 dX10_accesses_191 rfl ?_
    refine aw_iconst dX10_accesses_193 ⟨by decide, by decide⟩ ?_
    refine aw_callV (M' := mm_X10_sends) 10 [vI v1, vI 1, vI v2, vI v7, vI (-1)] [] lk_X10_248 ⟨_, rfl, rfl⟩ dX10_accesses_194 rfl (Nat.le_of_ble_eq_true rfl) ⟨by decide, by decide, Nat.zero_le _, Nat.zero_le _⟩ o1 ?_
    exact k.mono (fun _ _ z => aw_sub [] rfl z)
set_option maxRecDepth 20000 in
theorem sg_X10_accesses_49 {G : GG} {b : Nat × Nat} {Q : Option VV → Hp → Prop} {h : Hp} (k : Q none h) : AW G mm_X10_accesses b 49 [] [] h Q := by
  exact aw_vret dX10_accesses_49 rfl k
set_option maxRecDepth 20000 in
theorem sg_X10_accesses_217 {G : GG} {b : Nat × Nat} {Q : Option VV → Hp → Prop} {h : Hp} (k : Q none h) : AW G mm_X10_accesses b 217 [] [] h Q := by
  exact aw_vret dX10_accesses_217 rfl k
set_option maxRecDepth 20000 in
theorem sg_X10_accesses_197 {G : GG} {b : Nat × Nat} {Q : Option VV → Hp → Prop} {h : Hp} (k : Q none h) : AW G mm_X10_accesses b 197 [] [] h Q := by
  refine aw_goto (tgt := 217) dX10_accesses_197 (by decide) ?_
  exact aw_vret dX10_accesses_217 rfl k
set_option maxRecDepth 20000 in
theorem sg_X10_add_0 {G : GG} {b : Nat × Nat} {Q : Option VV → Hp → Prop} {v0 v1 v2 v3 : Int} {h : Hp} (k : ((¬ (0 ≤ v1 ∧ v1 ≤ 3)) → Q (some (vI (-1001))) h) ∧ ((0 ≤ v1 ∧ v1 ≤ 3) → ((0 ≤ v3 ∧ v3 ≤ 11) → ((0 ≤ v2 ∧ v2 ≤ 9999) → (h v0 (-1) = 11) ∧ Runs G mm_X10_post [vR v0, vI v1, vI 3, vI v2, vI 0, vI v3] h (fun r h' => AW G mm_X10_add b 42 [] (r.toList ++ []) h' Q)) ∧ ((¬ (0 ≤ v2 ∧ v2 ≤ 9999)) → Q (some (vI (-1002))) h)) ∧ ((¬ (0 ≤ v3 ∧ v3 ≤ 11)) → Q (some (vI (-1001))) h))) : AW G mm_X10_add b 0 [(0, vR v0), (1, vI v1), (2, vI v2), (3, vI v3)] [] h Q := by
  refine aw_iload_n 1 dX10_add_0 rfl rfl ?_
  refine aw_callS (M' := mm_X10_isEnd) [vI v1] [] lk_X10_220 dX10_add_1 rfl (Nat.le_of_ble_eq_true rfl) ⟨by decide, by decide, Nat.zero_le _, Nat.zero_le _⟩ ?_
  refine pu_X10_isEnd ?_
  refine aw_if_eq (tgt := 14) dX10_add_4 (by decide) (fun hc => ?_) (fun hc => ?_)
  · have k := k.1 (b2i_0.mp hc)
    refine aw_sipush dX10_add_14 ⟨by decide, by decide⟩ (by decide) ?_
    refine aw_goto (tgt := 42) dX10_add_17 (by decide) ?_
    exact aw_iret dX10_add_42 rfl k
  · have k := k.2 (b2i_n.mp hc)
    refine aw_iload_n 3 dX10_add_7 rfl rfl ?_
    refine aw_callS (M' := mm_X10_isCell) [vI v3] [] lk_X10_197 dX10_add_8 rfl (Nat.le_of_ble_eq_true rfl) ⟨by decide, by decide, Nat.zero_le _, Nat.zero_le _⟩ ?_
    refine pu_X10_isCell ?_
    refine aw_if_ne (tgt := 20) dX10_add_11 (by decide) (fun hc => ?_) (fun hc => ?_)
    · have k := k.1 (b2i_n.mp hc)
      refine aw_iload_n 2 dX10_add_20 rfl rfl ?_
      refine aw_callS (M' := mm_X10_isNumber) [vI v2] [] lk_X10_200 dX10_add_21 rfl (Nat.le_of_ble_eq_true rfl) ⟨by decide, by decide, Nat.zero_le _, Nat.zero_le _⟩ ?_
      refine pu_X10_isNumber ?_
      refine aw_if_ne (tgt := 33) dX10_add_24 (by decide) (fun hc => ?_) (fun hc => ?_)
      · have k := k.1 (b2i_n.mp hc)
        refine aw_aload_n 0 dX10_add_33 rfl rfl ?_
        refine aw_iload_n 1 dX10_add_34 rfl rfl ?_
        refine aw_iconst dX10_add_35 ⟨by decide, by decide⟩ ?_
        refine aw_iload_n 2 dX10_add_36 rfl rfl ?_
        refine aw_iconst dX10_add_37 ⟨by decide, by decide⟩ ?_
        refine aw_iload_n 3 dX10_add_38 rfl rfl ?_
        obtain ⟨o1, k⟩ := k
        refine aw_callV (M' := mm_X10_post) 10 [vI v1, vI 3, vI v2, vI 0, vI v3] [] lk_X10_282 ⟨_, rfl, rfl⟩ dX10_add_39 rfl (Nat.le_of_ble_eq_true rfl) ⟨by decide, by decide, Nat.zero_le _, Nat.zero_le _⟩ o1 ?_
        exact k.mono (fun _ _ z => aw_sub [] rfl z)
      · have k := k.2 (b2i_0.mp hc)
        refine aw_sipush dX10_add_27 ⟨by decide, by decide⟩ (by decide) ?_
        refine aw_goto (tgt := 42) dX10_add_30 (by decide) ?_
        exact aw_iret dX10_add_42 rfl k
    · have k := k.2 (b2i_0.mp hc)
      refine aw_sipush dX10_add_14 ⟨by decide, by decide⟩ (by decide) ?_
      refine aw_goto (tgt := 42) dX10_add_17 (by decide) ?_
      exact aw_iret dX10_add_42 rfl k
theorem rn_X10_add {G : GG} {Q : Option VV → Hp → Prop} {v0 v1 v2 v3 : Int} {h : Hp} (k : ((¬ (0 ≤ v1 ∧ v1 ≤ 3)) → Q (some (vI (-1001))) h) ∧ ((0 ≤ v1 ∧ v1 ≤ 3) → ((0 ≤ v3 ∧ v3 ≤ 11) → ((0 ≤ v2 ∧ v2 ≤ 9999) → (h v0 (-1) = 11) ∧ Runs G mm_X10_post [vR v0, vI v1, vI 3, vI v2, vI 0, vI v3] h (fun r h' => AW G mm_X10_add (0, 0) 42 [] (r.toList ++ []) h' Q)) ∧ ((¬ (0 ≤ v2 ∧ v2 ≤ 9999)) → Q (some (vI (-1002))) h)) ∧ ((¬ (0 ≤ v3 ∧ v3 ≤ 11)) → Q (some (vI (-1001))) h))) : Runs G mm_X10_add [vR v0, vI v1, vI v2, vI v3] h Q := Runs.of (by decide +kernel) (Nat.le_of_ble_eq_true rfl) (sg_X10_add_0 (b := (0, 0)) k)
set_option maxRecDepth 20000 in
theorem sg_X10_add_42 {G : GG} {b : Nat × Nat} {Q : Option VV → Hp → Prop} {s0 : Int} {h : Hp} (k : Q (some (vI s0)) h) : AW G mm_X10_add b 42 [] [vI s0] h Q := by
  exact aw_iret dX10_add_42 rfl k
set_option maxRecDepth 20000 in
theorem sg_X10_again_0 {G : GG} {b : Nat × Nat} {Q : Option VV → Hp → Prop} {v0 v1 : Int} {h : Hp} (k : (h v0 (-1) = 11) ∧ (h (h v0 11) (-1) = 20) ∧ (0 ≤ v1) ∧ (v1 < h (h v0 11) (-2)) ∧ (inI ((h (h v0 11) v1) + 1)) ∧ ∀ h1, h1 = wr h (h v0 11) v1 ((h (h v0 11) v1) + 1) → ((¬ ((h (h v0 11) v1) + 1) = 4) → AW G mm_X10_again b 35 [(0, vR v0), (1, vI v1), (2, vI 0)] [] h1 Q) ∧ ((((h (h v0 11) v1) + 1) = 4) → Runs G mm_X10_tellsOldest [vR v0, vI v1, vI 3, vI 0] h1 (fun r h' => AW G mm_X10_again b 27 [(0, vR v0), (1, vI v1)] (r.toList ++ []) h' Q))) : AW G mm_X10_again b 0 [(0, vR v0), (1, vI v1)] [] h Q := by
  refine aw_aload_n 0 dX10_again_0 rfl rfl ?_
  obtain ⟨o1, k⟩ := k
  refine aw_getR dX10_again_1 fl_X10_43 rfl o1 (x := (h v0 11)) rfl ?_
  refine aw_iload_n 1 dX10_again_4 rfl rfl ?_
  refine aw_dup2 dX10_again_5 rfl rfl ?_
  obtain ⟨o2, k⟩ := k
  obtain ⟨o3, k⟩ := k
  obtain ⟨o4, k⟩ := k
  refine aw_iald dX10_again_6 o2 o3 o4 (x := (h (h v0 11) v1)) rfl ?_
  refine aw_iconst dX10_again_7 ⟨by decide, by decide⟩ ?_
  obtain ⟨o5, k⟩ := k
  refine aw_iadd dX10_again_8 o5 ?_
  refine aw_iast dX10_again_9 o2 o3 o4 ?_
  refine aw_hp (fun h1 e6 => ?_)
  have k := k h1 e6
  refine aw_aload_n 0 dX10_again_10 rfl rfl ?_
  have q7 := sh_w e6 o3 o1
  refine aw_getR dX10_again_11 fl_X10_43 rfl q7 (x := (h v0 11)) (rd_a e6 v0 11 (ne_sh o2 o1 (by decide))) ?_
  refine aw_iload_n 1 dX10_again_14 rfl rfl ?_
  have q8 := sh_w e6 o3 o2
  refine aw_iald dX10_again_15 q8 o3 (lt_l (ln_w e6 (h v0 11) o3) o4) (x := ((h (h v0 11) v1) + 1)) (rd_e e6) ?_
  refine aw_iconst dX10_again_16 ⟨by decide, by decide⟩ ?_
  refine aw_icmp_ne (tgt := 33) dX10_again_17 (by decide) (fun hc => ?_) (fun hc => ?_)
  · have k := k.1 hc
    refine aw_iconst dX10_again_33 ⟨by decide, by decide⟩ ?_
    refine aw_istore_n dX10_again_34 rfl (by decide) ?_
    exact aw_sub [1, 2, 0] rfl k
  · have k := k.2 hc
    refine aw_aload_n 0 dX10_again_20 rfl rfl ?_
    refine aw_iload_n 1 dX10_again_21 rfl rfl ?_
    refine aw_iconst dX10_again_22 ⟨by decide, by decide⟩ ?_
    refine aw_iconst dX10_again_23 ⟨by decide, by decide⟩ ?_
    refine aw_callV (M' := mm_X10_tellsOldest) 10 [vI v1, vI 3, vI 0] [] lk_X10_245 ⟨_, rfl, rfl⟩ dX10_again_24 rfl (Nat.le_of_ble_eq_true rfl) ⟨by decide, by decide, Nat.zero_le _, Nat.zero_le _⟩ q7 ?_
    exact k
theorem rn_X10_again {G : GG} {Q : Option VV → Hp → Prop} {v0 v1 : Int} {h : Hp} (k : (h v0 (-1) = 11) ∧ (h (h v0 11) (-1) = 20) ∧ (0 ≤ v1) ∧ (v1 < h (h v0 11) (-2)) ∧ (inI ((h (h v0 11) v1) + 1)) ∧ ∀ h1, h1 = wr h (h v0 11) v1 ((h (h v0 11) v1) + 1) → ((¬ ((h (h v0 11) v1) + 1) = 4) → AW G mm_X10_again (0, 0) 35 [(0, vR v0), (1, vI v1), (2, vI 0)] [] h1 Q) ∧ ((((h (h v0 11) v1) + 1) = 4) → Runs G mm_X10_tellsOldest [vR v0, vI v1, vI 3, vI 0] h1 (fun r h' => AW G mm_X10_again (0, 0) 27 [(0, vR v0), (1, vI v1)] (r.toList ++ []) h' Q))) : Runs G mm_X10_again [vR v0, vI v1] h Q := Runs.of (by decide +kernel) (Nat.le_of_ble_eq_true rfl) (sg_X10_again_0 (b := (0, 0)) k)
set_option maxRecDepth 20000 in
theorem sg_X10_again_35 {G : GG} {b : Nat × Nat} {Q : Option VV → Hp → Prop} {v0 v1 v2 : Int} {h : Hp} (k : (h v0 (-1) = 11) ∧ (h (h v0 6) (-1) = 20) ∧ (0 ≤ v1) ∧ (v1 < h (h v0 6) (-2)) ∧ (((h (h v0 6) v1) ≤ v2) → Q none h) ∧ ((¬ ((h (h v0 6) v1) ≤ v2)) → Runs G mm_X10_sendsWork [vR v0, vI v1, vI v2] h (fun r h' => AW G mm_X10_again b 51 [(0, vR v0), (1, vI v1), (2, vI v2)] (r.toList ++ []) h' Q))) : AW G mm_X10_again b 35 [(0, vR v0), (1, vI v1), (2, vI v2)] [] h Q := by
  refine aw_iload_n 2 dX10_again_35 rfl rfl ?_
  refine aw_aload_n 0 dX10_again_36 rfl rfl ?_
  obtain ⟨o1, k⟩ := k
  refine aw_getR dX10_again_37 fl_X10_28 rfl o1 (x := (h v0 6)) rfl ?_
  refine aw_iload_n 1 dX10_again_40 rfl rfl ?_
  obtain ⟨o2, k⟩ := k
  obtain ⟨o3, k⟩ := k
  obtain ⟨o4, k⟩ := k
  refine aw_iald dX10_again_41 o2 o3 o4 (x := (h (h v0 6) v1)) rfl ?_
  refine aw_icmp_ge (tgt := 57) dX10_again_42 (by decide) (fun hc => ?_) (fun hc => ?_)
  · have k := k.1 hc
    exact aw_vret dX10_again_57 rfl k
  · have k := k.2 hc
    refine aw_aload_n 0 dX10_again_45 rfl rfl ?_
    refine aw_iload_n 1 dX10_again_46 rfl rfl ?_
    refine aw_iload_n 2 dX10_again_47 rfl rfl ?_
    refine aw_callV (M' := mm_X10_sendsWork) 10 [vI v1, vI v2] [] lk_X10_251 ⟨_, rfl, rfl⟩ dX10_again_48 rfl (Nat.le_of_ble_eq_true rfl) ⟨by decide, by decide, Nat.zero_le _, Nat.zero_le _⟩ o1 ?_
    exact k
set_option maxRecDepth 20000 in
theorem sg_X10_again_27 {G : GG} {b : Nat × Nat} {Q : Option VV → Hp → Prop} {v0 v1 : Int} {h : Hp} (k : (h v0 (-1) = 11) ∧ Runs G mm_X10_breaks [vR v0, vI v1] h (fun r h' => AW G mm_X10_again b 32 [] (r.toList ++ []) h' Q)) : AW G mm_X10_again b 27 [(0, vR v0), (1, vI v1)] [] h Q := by
  refine aw_aload_n 0 dX10_again_27 rfl rfl ?_
  refine aw_iload_n 1 dX10_again_28 rfl rfl ?_
  obtain ⟨o1, k⟩ := k
  refine aw_callV (M' := mm_X10_breaks) 10 [vI v1] [] lk_X10_223 ⟨_, rfl, rfl⟩ dX10_again_29 rfl (Nat.le_of_ble_eq_true rfl) ⟨by decide, by decide, Nat.zero_le _, Nat.zero_le _⟩ o1 ?_
  exact k.mono (fun _ _ z => aw_sub [] rfl z)
set_option maxRecDepth 20000 in
theorem sg_X10_again_51 {G : GG} {b : Nat × Nat} {Q : Option VV → Hp → Prop} {v0 v1 v2 : Int} {h : Hp} (k : (inI (v2 + 1)) ∧ AW G mm_X10_again b 35 [(0, vR v0), (1, vI v1), (2, vI (v2 + 1))] [] h Q) : AW G mm_X10_again b 51 [(0, vR v0), (1, vI v1), (2, vI v2)] [] h Q := by
  obtain ⟨o1, k⟩ := k
  refine aw_iinc 2 dX10_again_51 rfl o1 (by decide) ?_
  refine aw_goto (tgt := 35) dX10_again_54 (by decide) ?_
  exact aw_sub [1, 2, 0] rfl k
set_option maxRecDepth 20000 in
theorem sg_X10_again_32 {G : GG} {b : Nat × Nat} {Q : Option VV → Hp → Prop} {h : Hp} (k : Q none h) : AW G mm_X10_again b 32 [] [] h Q := by
  exact aw_vret dX10_again_32 rfl k
set_option maxRecDepth 20000 in
theorem sg_X10_aim_0 {G : GG} {b : Nat × Nat} {Q : Option VV → Hp → Prop} {v0 v1 v2 v3 : Int} {h : Hp} (k : ((¬ (0 ≤ v1 ∧ v1 ≤ 3)) → Q (some (vI (-1001))) h) ∧ ((0 ≤ v1 ∧ v1 ≤ 3) → ((0 ≤ v2 ∧ v2 ≤ 3) → ((0 ≤ v3 ∧ v3 ≤ 11) → (h v0 (-1) = 11) ∧ (h (h v0 16) (-1) = 20) ∧ (0 ≤ v1) ∧ (v1 < h (h v0 16) (-2)) ∧ ((¬ (h (h v0 16) v1) = v2) → ∀ h1, h1 = wr h (h v0 16) v1 v2 → (h (h v0 17) (-1) = 20) ∧ (v1 < h (h v0 17) (-2)) ∧ ∀ h2, h2 = wr h1 (h v0 17) v1 v3 → Q (some (vI 1)) h2) ∧ (((h (h v0 16) v1) = v2) → (h (h v0 17) (-1) = 20) ∧ (v1 < h (h v0 17) (-2)) ∧ (((h (h v0 17) v1) = v3) → ∀ h1, h1 = wr h (h v0 16) v1 v2 → ∀ h2, h2 = wr h1 (h v0 17) v1 v3 → Q (some (vI 0)) h2) ∧ ((¬ ((h (h v0 17) v1) = v3)) → ∀ h1, h1 = wr h (h v0 16) v1 v2 → ∀ h2, h2 = wr h1 (h v0 17) v1 v3 → Q (some (vI 1)) h2))) ∧ ((¬ (0 ≤ v3 ∧ v3 ≤ 11)) → Q (some (vI (-1002))) h)) ∧ ((¬ (0 ≤ v2 ∧ v2 ≤ 3)) → Q (some (vI (-1001))) h))) : AW G mm_X10_aim b 0 [(0, vR v0), (1, vI v1), (2, vI v2), (3, vI v3)] [] h Q := by
  refine aw_iload_n 1 dX10_aim_0 rfl rfl ?_
  refine aw_callS (M' := mm_X10_isEnd) [vI v1] [] lk_X10_220 dX10_aim_1 rfl (Nat.le_of_ble_eq_true rfl) ⟨by decide, by decide, Nat.zero_le _, Nat.zero_le _⟩ ?_
  refine pu_X10_isEnd ?_
  refine aw_if_eq (tgt := 19) dX10_aim_4 (by decide) (fun hc => ?_) (fun hc => ?_)
  · have k := k.1 (b2i_0.mp hc)
    refine aw_sipush dX10_aim_19 ⟨by decide, by decide⟩ (by decide) ?_
    exact aw_iret dX10_aim_22 rfl k
  · have k := k.2 (b2i_n.mp hc)
    refine aw_iload_n 2 dX10_aim_7 rfl rfl ?_
    refine aw_i2l dX10_aim_8 ?_
    refine aw_lconst (x := 0) dX10_aim_9 ⟨by decide, by decide⟩ (by decide) ?_
    refine aw_ldc2 (x := 3) dX10_aim_10 ⟨by decide, by decide⟩ cl_X10_101 ?_
    refine aw_callS (M' := mm_X10_in) [vL v2, vL 0, vL 3] [] lk_X10_95 dX10_aim_13 rfl (Nat.le_of_ble_eq_true rfl) ⟨by decide, by decide, Nat.zero_le _, Nat.zero_le _⟩ ?_
    refine pu_X10_in ?_
    refine aw_if_ne (tgt := 23) dX10_aim_16 (by decide) (fun hc => ?_) (fun hc => ?_)
    · have k := k.1 (b2i_n.mp hc)
      refine aw_iload_n 3 dX10_aim_23 rfl rfl ?_
      refine aw_i2l dX10_aim_24 ?_
      refine aw_lconst (x := 0) dX10_aim_25 ⟨by decide, by decide⟩ (by decide) ?_
      refine aw_ldc2 (x := 11) dX10_aim_26 ⟨by decide, by decide⟩ cl_X10_99 ?_
      refine aw_callS (M' := mm_X10_in) [vL v3, vL 0, vL 11] [] lk_X10_95 dX10_aim_29 rfl (Nat.le_of_ble_eq_true rfl) ⟨by decide, by decide, Nat.zero_le _, Nat.zero_le _⟩ ?_
      refine pu_X10_in ?_
      refine aw_if_ne (tgt := 39) dX10_aim_32 (by decide) (fun hc => ?_) (fun hc => ?_)
      · have k := k.1 (b2i_n.mp hc)
        refine aw_aload_n 0 dX10_aim_39 rfl rfl ?_
        obtain ⟨o1, k⟩ := k
        refine aw_getR dX10_aim_40 fl_X10_59 rfl o1 (x := (h v0 16)) rfl ?_
        refine aw_iload_n 1 dX10_aim_43 rfl rfl ?_
        obtain ⟨o2, k⟩ := k
        obtain ⟨o3, k⟩ := k
        obtain ⟨o4, k⟩ := k
        refine aw_iald dX10_aim_44 o2 o3 o4 (x := (h (h v0 16) v1)) rfl ?_
        refine aw_iload_n 2 dX10_aim_45 rfl rfl ?_
        refine aw_icmp_ne (tgt := 59) dX10_aim_46 (by decide) (fun hc => ?_) (fun hc => ?_)
        · have k := k.1 hc
          refine aw_iconst dX10_aim_59 ⟨by decide, by decide⟩ ?_
          refine aw_goto (tgt := 64) dX10_aim_60 (by decide) ?_
          refine aw_istore dX10_aim_64 (by decide) ?_
          refine aw_aload_n 1 dX10_aim_66 rfl rfl ?_
          refine aw_getR dX10_aim_67 fl_X10_59 rfl o1 (x := (h v0 16)) rfl ?_
          refine aw_iload_n 2 dX10_aim_70 rfl rfl ?_
          refine aw_iload_n 3 dX10_aim_71 rfl rfl ?_
          refine aw_iast dX10_aim_72 o2 o3 o4 ?_
          refine aw_hp (fun h1 e5 => ?_)
          have k := k h1 e5
          refine aw_aload_n 1 dX10_aim_73 rfl rfl ?_
          have q6 := sh_w e5 o3 o1
          refine aw_getR dX10_aim_74 fl_X10_62 rfl q6 (x := (h v0 17)) (rd_a e5 v0 17 (ne_sh o2 o1 (by decide))) ?_
          refine aw_iload_n 2 dX10_aim_77 rfl rfl ?_
          refine aw_iload_n 4 dX10_aim_78 rfl rfl ?_
          obtain ⟨o7, k⟩ := k
          obtain ⟨o8, k⟩ := k
          have q9 := sh_w e5 o3 o7
          refine aw_iast dX10_aim_79 q9 o3 (lt_l (ln_w e5 (h v0 17) o3) o8) ?_
          refine aw_hp (fun h2 e10 => ?_)
          have k := k h2 e10
          refine aw_iload 0 dX10_aim_80 rfl ?_
          exact aw_iret dX10_aim_82 rfl k
        · have k := k.2 hc
          refine aw_aload_n 0 dX10_aim_49 rfl rfl ?_
          refine aw_getR dX10_aim_50 fl_X10_62 rfl o1 (x := (h v0 17)) rfl ?_
          refine aw_iload_n 1 dX10_aim_53 rfl rfl ?_
          obtain ⟨o11, k⟩ := k
          obtain ⟨o12, k⟩ := k
          refine aw_iald dX10_aim_54 o11 o3 o12 (x := (h (h v0 17) v1)) rfl ?_
          refine aw_iload_n 3 dX10_aim_55 rfl rfl ?_
          refine aw_icmp_eq (tgt := 63) dX10_aim_56 (by decide) (fun hc => ?_) (fun hc => ?_)
          · have k := k.1 hc
            refine aw_iconst dX10_aim_63 ⟨by decide, by decide⟩ ?_
            refine aw_istore dX10_aim_64 (by decide) ?_
            refine aw_aload_n 1 dX10_aim_66 rfl rfl ?_
            refine aw_getR dX10_aim_67 fl_X10_59 rfl o1 (x := (h v0 16)) rfl ?_
            refine aw_iload_n 2 dX10_aim_70 rfl rfl ?_
            refine aw_iload_n 3 dX10_aim_71 rfl rfl ?_
            refine aw_iast dX10_aim_72 o2 o3 o4 ?_
            refine aw_hp (fun h1 e13 => ?_)
            have k := k h1 e13
            refine aw_aload_n 1 dX10_aim_73 rfl rfl ?_
            have q14 := sh_w e13 o3 o1
            refine aw_getR dX10_aim_74 fl_X10_62 rfl q14 (x := (h v0 17)) (rd_a e13 v0 17 (ne_sh o2 o1 (by decide))) ?_
            refine aw_iload_n 2 dX10_aim_77 rfl rfl ?_
            refine aw_iload_n 4 dX10_aim_78 rfl rfl ?_
            have q15 := sh_w e13 o3 o11
            refine aw_iast dX10_aim_79 q15 o3 (lt_l (ln_w e13 (h v0 17) o3) o12) ?_
            refine aw_hp (fun h2 e16 => ?_)
            have k := k h2 e16
            refine aw_iload 0 dX10_aim_80 rfl ?_
            exact aw_iret dX10_aim_82 rfl k
          · have k := k.2 hc
            refine aw_iconst dX10_aim_59 ⟨by decide, by decide⟩ ?_
            refine aw_goto (tgt := 64) dX10_aim_60 (by decide) ?_
            refine aw_istore dX10_aim_64 (by decide) ?_
            refine aw_aload_n 1 dX10_aim_66 rfl rfl ?_
            refine aw_getR dX10_aim_67 fl_X10_59 rfl o1 (x := (h v0 16)) rfl ?_
            refine aw_iload_n 2 dX10_aim_70 rfl rfl ?_
            refine aw_iload_n 3 dX10_aim_71 rfl rfl ?_
            refine aw_iast dX10_aim_72 o2 o3 o4 ?_
            refine aw_hp (fun h1 e17 => ?_)
            have k := k h1 e17
            refine aw_aload_n 1 dX10_aim_73 rfl rfl ?_
            have q18 := sh_w e17 o3 o1
            refine aw_getR dX10_aim_74 fl_X10_62 rfl q18 (x := (h v0 17)) (rd_a e17 v0 17 (ne_sh o2 o1 (by decide))) ?_
            refine aw_iload_n 2 dX10_aim_77 rfl rfl ?_
            refine aw_iload_n 4 dX10_aim_78 rfl rfl ?_
            have q19 := sh_w e17 o3 o11
            refine aw_iast dX10_aim_79 q19 o3 (lt_l (ln_w e17 (h v0 17) o3) o12) ?_
            refine aw_hp (fun h2 e20 => ?_)
            have k := k h2 e20
            refine aw_iload 0 dX10_aim_80 rfl ?_
            exact aw_iret dX10_aim_82 rfl k
      · have k := k.2 (b2i_0.mp hc)
        refine aw_sipush dX10_aim_35 ⟨by decide, by decide⟩ (by decide) ?_
        exact aw_iret dX10_aim_38 rfl k
    · have k := k.2 (b2i_0.mp hc)
      refine aw_sipush dX10_aim_19 ⟨by decide, by decide⟩ (by decide) ?_
      exact aw_iret dX10_aim_22 rfl k
theorem rn_X10_aim {G : GG} {Q : Option VV → Hp → Prop} {v0 v1 v2 v3 : Int} {h : Hp} (k : ((¬ (0 ≤ v1 ∧ v1 ≤ 3)) → Q (some (vI (-1001))) h) ∧ ((0 ≤ v1 ∧ v1 ≤ 3) → ((0 ≤ v2 ∧ v2 ≤ 3) → ((0 ≤ v3 ∧ v3 ≤ 11) → (h v0 (-1) = 11) ∧ (h (h v0 16) (-1) = 20) ∧ (0 ≤ v1) ∧ (v1 < h (h v0 16) (-2)) ∧ ((¬ (h (h v0 16) v1) = v2) → ∀ h1, h1 = wr h (h v0 16) v1 v2 → (h (h v0 17) (-1) = 20) ∧ (v1 < h (h v0 17) (-2)) ∧ ∀ h2, h2 = wr h1 (h v0 17) v1 v3 → Q (some (vI 1)) h2) ∧ (((h (h v0 16) v1) = v2) → (h (h v0 17) (-1) = 20) ∧ (v1 < h (h v0 17) (-2)) ∧ (((h (h v0 17) v1) = v3) → ∀ h1, h1 = wr h (h v0 16) v1 v2 → ∀ h2, h2 = wr h1 (h v0 17) v1 v3 → Q (some (vI 0)) h2) ∧ ((¬ ((h (h v0 17) v1) = v3)) → ∀ h1, h1 = wr h (h v0 16) v1 v2 → ∀ h2, h2 = wr h1 (h v0 17) v1 v3 → Q (some (vI 1)) h2))) ∧ ((¬ (0 ≤ v3 ∧ v3 ≤ 11)) → Q (some (vI (-1002))) h)) ∧ ((¬ (0 ≤ v2 ∧ v2 ≤ 3)) → Q (some (vI (-1001))) h))) : Runs G mm_X10_aim [vR v0, vI v1, vI v2, vI v3] h Q := Runs.of (by decide +kernel) (Nat.le_of_ble_eq_true rfl) (sg_X10_aim_0 (b := (0, 0)) k)
set_option maxRecDepth 20000 in
theorem sg_X10_allAnew_0 {G : GG} {b : Nat × Nat} {Q : Option VV → Hp → Prop} {v0 : Int} {h : Hp} (k : AW G mm_X10_allAnew b 2 [(0, vR v0), (1, vI 0)] [] h Q) : AW G mm_X10_allAnew b 0 [(0, vR v0)] [] h Q := by
  refine aw_iconst dX10_allAnew_0 ⟨by decide, by decide⟩ ?_
  refine aw_istore_n dX10_allAnew_1 rfl (by decide) ?_
  exact aw_sub [1, 0] rfl k
theorem rn_X10_allAnew {G : GG} {Q : Option VV → Hp → Prop} {v0 : Int} {h : Hp} (k : AW G mm_X10_allAnew (0, 0) 2 [(0, vR v0), (1, vI 0)] [] h Q) : Runs G mm_X10_allAnew [vR v0] h Q := Runs.of (by decide +kernel) (Nat.le_of_ble_eq_true rfl) (sg_X10_allAnew_0 (b := (0, 0)) k)
set_option maxRecDepth 20000 in
theorem sg_X10_allAnew_2 {G : GG} {b : Nat × Nat} {Q : Option VV → Hp → Prop} {v0 v1 : Int} {h : Hp} (k : ((24 ≤ v1) → AW G mm_X10_allAnew b 23 [(0, vR v0), (1, vI 0)] [] h Q) ∧ ((¬ (24 ≤ v1)) → (h v0 (-1) = 11) ∧ (h (h v0 0) (-1) = 20) ∧ (0 ≤ v1) ∧ (v1 < h (h v0 0) (-2)) ∧ ∀ h1, h1 = wr h (h v0 0) v1 0 → (inI (v1 + 1)) ∧ AW G mm_X10_allAnew b 2 [(0, vR v0), (1, vI (v1 + 1))] [] h1 Q)) : AW G mm_X10_allAnew b 2 [(0, vR v0), (1, vI v1)] [] h Q := by
  refine aw_iload_n 1 dX10_allAnew_2 rfl rfl ?_
  refine aw_bipush dX10_allAnew_3 ⟨by decide, by decide⟩ (by decide) ?_
  refine aw_icmp_ge (tgt := 21) dX10_allAnew_5 (by decide) (fun hc => ?_) (fun hc => ?_)
  · have k := k.1 hc
    refine aw_iconst dX10_allAnew_21 ⟨by decide, by decide⟩ ?_
    refine aw_istore_n dX10_allAnew_22 rfl (by decide) ?_
    exact aw_sub [1, 0] rfl k
  · have k := k.2 hc
    refine aw_aload_n 0 dX10_allAnew_8 rfl rfl ?_
    obtain ⟨o1, k⟩ := k
    refine aw_getR dX10_allAnew_9 fl_X10_7 rfl o1 (x := (h v0 0)) rfl ?_
    refine aw_iload_n 1 dX10_allAnew_12 rfl rfl ?_
    refine aw_iconst dX10_allAnew_13 ⟨by decide, by decide⟩ ?_
    obtain ⟨o2, k⟩ := k
    obtain ⟨o3, k⟩ := k
    obtain ⟨o4, k⟩ := k
    refine aw_iast dX10_allAnew_14 o2 o3 o4 ?_
    refine aw_hp (fun h1 e5 => ?_)
    have k := k h1 e5
    obtain ⟨o6, k⟩ := k
    refine aw_iinc 1 dX10_allAnew_15 rfl o6 (by decide) ?_
    refine aw_goto (tgt := 2) dX10_allAnew_18 (by decide) ?_
    exact aw_sub [1, 0] rfl k
set_option maxRecDepth 20000 in
theorem sg_X10_allAnew_23 {G : GG} {b : Nat × Nat} {Q : Option VV → Hp → Prop} {v0 v1 : Int} {h : Hp} (k : ((8 ≤ v1) → AW G mm_X10_allAnew b 44 [(0, vR v0), (1, vI 0)] [] h Q) ∧ ((¬ (8 ≤ v1)) → (h v0 (-1) = 11) ∧ (h (h v0 2) (-1) = 20) ∧ (0 ≤ v1) ∧ (v1 < h (h v0 2) (-2)) ∧ ∀ h1, h1 = wr h (h v0 2) v1 0 → (inI (v1 + 1)) ∧ AW G mm_X10_allAnew b 23 [(0, vR v0), (1, vI (v1 + 1))] [] h1 Q)) : AW G mm_X10_allAnew b 23 [(0, vR v0), (1, vI v1)] [] h Q := by
  refine aw_iload_n 1 dX10_allAnew_23 rfl rfl ?_
  refine aw_bipush dX10_allAnew_24 ⟨by decide, by decide⟩ (by decide) ?_
  refine aw_icmp_ge (tgt := 42) dX10_allAnew_26 (by decide) (fun hc => ?_) (fun hc => ?_)
  · have k := k.1 hc
    refine aw_iconst dX10_allAnew_42 ⟨by decide, by decide⟩ ?_
    refine aw_istore_n dX10_allAnew_43 rfl (by decide) ?_
    exact aw_sub [1, 0] rfl k
  · have k := k.2 hc
    refine aw_aload_n 0 dX10_allAnew_29 rfl rfl ?_
    obtain ⟨o1, k⟩ := k
    refine aw_getR dX10_allAnew_30 fl_X10_16 rfl o1 (x := (h v0 2)) rfl ?_
    refine aw_iload_n 1 dX10_allAnew_33 rfl rfl ?_
    refine aw_iconst dX10_allAnew_34 ⟨by decide, by decide⟩ ?_
    obtain ⟨o2, k⟩ := k
    obtain ⟨o3, k⟩ := k
    obtain ⟨o4, k⟩ := k
    refine aw_iast dX10_allAnew_35 o2 o3 o4 ?_
    refine aw_hp (fun h1 e5 => ?_)
    have k := k h1 e5
    obtain ⟨o6, k⟩ := k
    refine aw_iinc 1 dX10_allAnew_36 rfl o6 (by decide) ?_
    refine aw_goto (tgt := 23) dX10_allAnew_39 (by decide) ?_
    exact aw_sub [1, 0] rfl k
set_option maxRecDepth 20000 in
theorem sg_X10_allAnew_44 {G : GG} {b : Nat × Nat} {Q : Option VV → Hp → Prop} {v0 v1 : Int} {h : Hp} (k : ((4 ≤ v1) → AW G mm_X10_allAnew b 77 [(0, vR v0), (1, vI 0)] [] h Q) ∧ ((¬ (4 ≤ v1)) → (h v0 (-1) = 11) ∧ Runs G mm_X10_endAnew [vR v0, vI v1, vI 0] h (fun r h' => AW G mm_X10_allAnew b 55 [(0, vR v0), (1, vI v1)] (r.toList ++ []) h' Q))) : AW G mm_X10_allAnew b 44 [(0, vR v0), (1, vI v1)] [] h Q := by
  refine aw_iload_n 1 dX10_allAnew_44 rfl rfl ?_
  refine aw_iconst dX10_allAnew_45 ⟨by decide, by decide⟩ ?_
  refine aw_icmp_ge (tgt := 75) dX10_allAnew_46 (by decide) (fun hc => ?_) (fun hc => ?_)
  · have k := k.1 hc
    refine aw_iconst dX10_allAnew_75 ⟨by decide, by decide⟩ ?_
    refine aw_istore_n dX10_allAnew_76 rfl (by decide) ?_
    exact aw_sub [1, 0] rfl k
  · have k := k.2 hc
    refine aw_aload_n 0 dX10_allAnew_49 rfl rfl ?_
    refine aw_iload_n 1 dX10_allAnew_50 rfl rfl ?_
    refine aw_iconst dX10_allAnew_51 ⟨by decide, by decide⟩ ?_
    obtain ⟨o1, k⟩ := k
    refine aw_callV (M' := mm_X10_endAnew) 10 [vI v1, vI 0] [] lk_X10_105 ⟨_, rfl, rfl⟩ dX10_allAnew_52 rfl (Nat.le_of_ble_eq_true rfl) ⟨by decide, by decide, Nat.zero_le _, Nat.zero_le _⟩ o1 ?_
    exact k
set_option maxRecDepth 20000 in
theorem sg_X10_allAnew_77 {G : GG} {b : Nat × Nat} {Q : Option VV → Hp → Prop} {v0 v1 : Int} {h : Hp} (k : ((2 ≤ v1) → (h v0 (-1) = 11) ∧ ∀ h1, h1 = wr h v0 19 0 → ∀ h2, h2 = wr h1 v0 21 0 → ∀ h3, h3 = wr h2 v0 27 0 → ∀ h4, h4 = wr h3 v0 28 0 → ∀ h5, h5 = wr h4 v0 29 0 → Q none h5) ∧ ((¬ (2 ≤ v1)) → (h v0 (-1) = 11) ∧ (h (h v0 18) (-1) = 20) ∧ (0 ≤ v1) ∧ (v1 < h (h v0 18) (-2)) ∧ ∀ h1, h1 = wr h (h v0 18) v1 1 → (h (h v0 24) (-1) = 20) ∧ (v1 < h (h v0 24) (-2)) ∧ ∀ h2, h2 = wr h1 (h v0 24) v1 0 → (h (h v0 25) (-1) = 20) ∧ (v1 < h (h v0 25) (-2)) ∧ ∀ h3, h3 = wr h2 (h v0 25) v1 0 → (inI (v1 + 1)) ∧ AW G mm_X10_allAnew b 77 [(0, vR v0), (1, vI (v1 + 1))] [] h3 Q)) : AW G mm_X10_allAnew b 77 [(0, vR v0), (1, vI v1)] [] h Q := by
  refine aw_iload_n 1 dX10_allAnew_77 rfl rfl ?_
  refine aw_iconst dX10_allAnew_78 ⟨by decide, by decide⟩ ?_
  refine aw_icmp_ge (tgt := 109) dX10_allAnew_79 (by decide) (fun hc => ?_) (fun hc => ?_)
  · have k := k.1 hc
    refine aw_aload_n 0 dX10_allAnew_109 rfl rfl ?_
    refine aw_iconst dX10_allAnew_110 ⟨by decide, by decide⟩ ?_
    obtain ⟨o1, k⟩ := k
    refine aw_putI dX10_allAnew_111 fl_X10_109 (fun q hq hf => by cases hq; cases hf) rfl rfl o1 ?_
    refine aw_hp (fun h1 e2 => ?_)
    have k := k h1 e2
    refine aw_aload_n 0 dX10_allAnew_114 rfl rfl ?_
    refine aw_iconst dX10_allAnew_115 ⟨by decide, by decide⟩ ?_
    have q3 := sh_w e2 (by decide) o1
    refine aw_putI dX10_allAnew_116 fl_X10_113 (fun q hq hf => by cases hq; cases hf) rfl rfl q3 ?_
    refine aw_hp (fun h2 e4 => ?_)
    have k := k h2 e4
    refine aw_aload_n 0 dX10_allAnew_119 rfl rfl ?_
    refine aw_iconst dX10_allAnew_120 ⟨by decide, by decide⟩ ?_
    have q5 := sh_w e4 (by decide) q3
    refine aw_putZ dX10_allAnew_121 fl_X10_116 (fun q hq hf => by cases hq; cases hf) rfl rfl (by decide) q5 ?_
    refine aw_hp (fun h3 e6 => ?_)
    have k := k h3 e6
    refine aw_aload_n 0 dX10_allAnew_124 rfl rfl ?_
    refine aw_iconst dX10_allAnew_125 ⟨by decide, by decide⟩ ?_
    have q7 := sh_w e6 (by decide) q5
    refine aw_putI dX10_allAnew_126 fl_X10_120 (fun q hq hf => by cases hq; cases hf) rfl rfl q7 ?_
    refine aw_hp (fun h4 e8 => ?_)
    have k := k h4 e8
    refine aw_aload_n 0 dX10_allAnew_129 rfl rfl ?_
    refine aw_iconst dX10_allAnew_130 ⟨by decide, by decide⟩ ?_
    have q9 := sh_w e8 (by decide) q7
    refine aw_putI dX10_allAnew_131 fl_X10_123 (fun q hq hf => by cases hq; cases hf) rfl rfl q9 ?_
    refine aw_hp (fun h5 e10 => ?_)
    have k := k h5 e10
    exact aw_vret dX10_allAnew_134 rfl k
  · have k := k.2 hc
    refine aw_aload_n 0 dX10_allAnew_82 rfl rfl ?_
    obtain ⟨o11, k⟩ := k
    refine aw_getR dX10_allAnew_83 fl_X10_65 rfl o11 (x := (h v0 18)) rfl ?_
    refine aw_iload_n 1 dX10_allAnew_86 rfl rfl ?_
    refine aw_iconst dX10_allAnew_87 ⟨by decide, by decide⟩ ?_
    obtain ⟨o12, k⟩ := k
    obtain ⟨o13, k⟩ := k
    obtain ⟨o14, k⟩ := k
    refine aw_iast dX10_allAnew_88 o12 o13 o14 ?_
    refine aw_hp (fun h1 e15 => ?_)
    have k := k h1 e15
    refine aw_aload_n 0 dX10_allAnew_89 rfl rfl ?_
    have q16 := sh_w e15 o13 o11
    refine aw_getR dX10_allAnew_90 fl_X10_74 rfl q16 (x := (h v0 24)) (rd_a e15 v0 24 (ne_sh o12 o11 (by decide))) ?_
    refine aw_iload_n 1 dX10_allAnew_93 rfl rfl ?_
    refine aw_iconst dX10_allAnew_94 ⟨by decide, by decide⟩ ?_
    obtain ⟨o17, k⟩ := k
    obtain ⟨o18, k⟩ := k
    have q19 := sh_w e15 o13 o17
    refine aw_iast dX10_allAnew_95 q19 o13 (lt_l (ln_w e15 (h v0 24) o13) o18) ?_
    refine aw_hp (fun h2 e20 => ?_)
    have k := k h2 e20
    refine aw_aload_n 0 dX10_allAnew_96 rfl rfl ?_
    have q21 := sh_w e20 o13 q16
    refine aw_getR dX10_allAnew_97 fl_X10_77 rfl q21 (x := (h v0 25)) ((rd_a e20 v0 25 (ne_sh q19 q16 (by decide))).trans (rd_a e15 v0 25 (ne_sh o12 o11 (by decide)))) ?_
    refine aw_iload_n 1 dX10_allAnew_100 rfl rfl ?_
    refine aw_iconst dX10_allAnew_101 ⟨by decide, by decide⟩ ?_
    obtain ⟨o22, k⟩ := k
    obtain ⟨o23, k⟩ := k
    have q24 := sh_w e15 o13 o22
    have q25 := sh_w e20 o13 q24
    refine aw_iast dX10_allAnew_102 q25 o13 (lt_l ((ln_w e20 (h v0 25) o13).trans (ln_w e15 (h v0 25) o13)) o23) ?_
    refine aw_hp (fun h3 e26 => ?_)
    have k := k h3 e26
    obtain ⟨o27, k⟩ := k
    refine aw_iinc 1 dX10_allAnew_103 rfl o27 (by decide) ?_
    refine aw_goto (tgt := 77) dX10_allAnew_106 (by decide) ?_
    exact aw_sub [1, 0] rfl k
set_option maxRecDepth 20000 in
theorem sg_X10_allAnew_55 {G : GG} {b : Nat × Nat} {Q : Option VV → Hp → Prop} {v0 v1 : Int} {h : Hp} (k : (h v0 (-1) = 11) ∧ (h (h v0 16) (-1) = 20) ∧ (0 ≤ v1) ∧ (v1 < h (h v0 16) (-2)) ∧ ∀ h1, h1 = wr h (h v0 16) v1 0 → (h (h v0 17) (-1) = 20) ∧ (v1 < h (h v0 17) (-2)) ∧ ∀ h2, h2 = wr h1 (h v0 17) v1 0 → (inI (v1 + 1)) ∧ AW G mm_X10_allAnew b 44 [(0, vR v0), (1, vI (v1 + 1))] [] h2 Q) : AW G mm_X10_allAnew b 55 [(0, vR v0), (1, vI v1)] [] h Q := by
  refine aw_aload_n 0 dX10_allAnew_55 rfl rfl ?_
  obtain ⟨o1, k⟩ := k
  refine aw_getR dX10_allAnew_56 fl_X10_59 rfl o1 (x := (h v0 16)) rfl ?_
  refine aw_iload_n 1 dX10_allAnew_59 rfl rfl ?_
  refine aw_iconst dX10_allAnew_60 ⟨by decide, by decide⟩ ?_
  obtain ⟨o2, k⟩ := k
  obtain ⟨o3, k⟩ := k
  obtain ⟨o4, k⟩ := k
  refine aw_iast dX10_allAnew_61 o2 o3 o4 ?_
  refine aw_hp (fun h1 e5 => ?_)
  have k := k h1 e5
  refine aw_aload_n 0 dX10_allAnew_62 rfl rfl ?_
  have q6 := sh_w e5 o3 o1
  refine aw_getR dX10_allAnew_63 fl_X10_62 rfl q6 (x := (h v0 17)) (rd_a e5 v0 17 (ne_sh o2 o1 (by decide))) ?_
  refine aw_iload_n 1 dX10_allAnew_66 rfl rfl ?_
  refine aw_iconst dX10_allAnew_67 ⟨by decide, by decide⟩ ?_
  obtain ⟨o7, k⟩ := k
  obtain ⟨o8, k⟩ := k
  have q9 := sh_w e5 o3 o7
  refine aw_iast dX10_allAnew_68 q9 o3 (lt_l (ln_w e5 (h v0 17) o3) o8) ?_
  refine aw_hp (fun h2 e10 => ?_)
  have k := k h2 e10
  obtain ⟨o11, k⟩ := k
  refine aw_iinc 1 dX10_allAnew_69 rfl o11 (by decide) ?_
  refine aw_goto (tgt := 44) dX10_allAnew_72 (by decide) ?_
  exact aw_sub [1, 0] rfl k
set_option maxRecDepth 20000 in
theorem sg_X10_allCells_0 {G : GG} {b : Nat × Nat} {Q : Option VV → Hp → Prop} {v0 : Int} {h : Hp} (k : AW G mm_X10_allCells b 4 [(0, vR v0), (1, vI 0), (2, vI 0)] [] h Q) : AW G mm_X10_allCells b 0 [(0, vR v0)] [] h Q := by
  refine aw_iconst dX10_allCells_0 ⟨by decide, by decide⟩ ?_
  refine aw_istore_n dX10_allCells_1 rfl (by decide) ?_
  refine aw_iconst dX10_allCells_2 ⟨by decide, by decide⟩ ?_
  refine aw_istore_n dX10_allCells_3 rfl (by decide) ?_
  exact aw_sub [2, 1, 0] rfl k
theorem rn_X10_allCells {G : GG} {Q : Option VV → Hp → Prop} {v0 : Int} {h : Hp} (k : AW G mm_X10_allCells (0, 0) 4 [(0, vR v0), (1, vI 0), (2, vI 0)] [] h Q) : Runs G mm_X10_allCells [vR v0] h Q := Runs.of (by decide +kernel) (Nat.le_of_ble_eq_true rfl) (sg_X10_allCells_0 (b := (0, 0)) k)
set_option maxRecDepth 20000 in
theorem sg_X10_allCells_4 {G : GG} {b : Nat × Nat} {Q : Option VV → Hp → Prop} {v0 v1 v2 : Int} {h : Hp} (k : ((24 ≤ v2) → Q (some (vI v1)) h) ∧ ((¬ (24 ≤ v2)) → (h v0 (-1) = 11) ∧ (h (h v0 0) (-1) = 20) ∧ (0 ≤ v2) ∧ (v2 < h (h v0 0) (-2)) ∧ (inI (v1 + (h (h v0 0) v2))) ∧ (inI (v2 + 1)) ∧ AW G mm_X10_allCells b 4 [(0, vR v0), (1, vI (v1 + (h (h v0 0) v2))), (2, vI (v2 + 1))] [] h Q)) : AW G mm_X10_allCells b 4 [(0, vR v0), (1, vI v1), (2, vI v2)] [] h Q := by
  refine aw_iload_n 2 dX10_allCells_4 rfl rfl ?_
  refine aw_bipush dX10_allCells_5 ⟨by decide, by decide⟩ (by decide) ?_
  refine aw_icmp_ge (tgt := 25) dX10_allCells_7 (by decide) (fun hc => ?_) (fun hc => ?_)
  · have k := k.1 hc
    refine aw_iload_n 1 dX10_allCells_25 rfl rfl ?_
    exact aw_iret dX10_allCells_26 rfl k
  · have k := k.2 hc
    refine aw_iload_n 1 dX10_allCells_10 rfl rfl ?_
    refine aw_aload_n 0 dX10_allCells_11 rfl rfl ?_
    obtain ⟨o1, k⟩ := k
    refine aw_getR dX10_allCells_12 fl_X10_7 rfl o1 (x := (h v0 0)) rfl ?_
    refine aw_iload_n 2 dX10_allCells_15 rfl rfl ?_
    obtain ⟨o2, k⟩ := k
    obtain ⟨o3, k⟩ := k
    obtain ⟨o4, k⟩ := k
    refine aw_iald dX10_allCells_16 o2 o3 o4 (x := (h (h v0 0) v2)) rfl ?_
    obtain ⟨o5, k⟩ := k
    refine aw_iadd dX10_allCells_17 o5 ?_
    refine aw_istore_n dX10_allCells_18 rfl (by decide) ?_
    obtain ⟨o6, k⟩ := k
    refine aw_iinc 2 dX10_allCells_19 rfl o6 (by decide) ?_
    refine aw_goto (tgt := 4) dX10_allCells_22 (by decide) ?_
    exact aw_sub [2, 1, 0] rfl k
set_option maxRecDepth 20000 in
theorem sg_X10_answered_0 {G : GG} {b : Nat × Nat} {Q : Option VV → Hp → Prop} {v0 v1 v2 v3 : Int} {h : Hp} (k : ((¬ v3 = 2) → (h v0 (-1) = 11) ∧ Runs G mm_X10_isOpen [vR v0, vI v1, vI v2] h (fun r h' => AW G mm_X10_answered b 32 [(0, vR v0), (1, vI v1), (2, vI v2), (3, vI v3)] (r.toList ++ []) h' Q)) ∧ ((v3 = 2) → (h v0 (-1) = 11) ∧ (h (h v0 6) (-1) = 20) ∧ (0 ≤ v1) ∧ (v1 < h (h v0 6) (-2)) ∧ (((h (h v0 6) v1) = 0) → Q none h) ∧ ((¬ ((h (h v0 6) v1) = 0)) → Runs G mm_X10_oldest [vR v0, vI v1] h (fun r h' => AW G mm_X10_answered b 20 [(0, vR v0), (1, vI v1), (2, vI v2), (3, vI v3)] (r.toList ++ [vI v2]) h' Q)))) : AW G mm_X10_answered b 0 [(0, vR v0), (1, vI v1), (2, vI v2), (3, vI v3)] [] h Q := by
  refine aw_iload_n 3 dX10_answered_0 rfl rfl ?_
  refine aw_iconst dX10_answered_1 ⟨by decide, by decide⟩ ?_
  refine aw_icmp_ne (tgt := 26) dX10_answered_2 (by decide) (fun hc => ?_) (fun hc => ?_)
  · have k := k.1 hc
    refine aw_aload_n 0 dX10_answered_26 rfl rfl ?_
    refine aw_iload_n 1 dX10_answered_27 rfl rfl ?_
    refine aw_iload_n 2 dX10_answered_28 rfl rfl ?_
    obtain ⟨o1, k⟩ := k
    refine aw_callV (M' := mm_X10_isOpen) 10 [vI v1, vI v2] [] lk_X10_275 ⟨_, rfl, rfl⟩ dX10_answered_29 rfl (Nat.le_of_ble_eq_true rfl) ⟨by decide, by decide, Nat.zero_le _, Nat.zero_le _⟩ o1 ?_
    exact k
  · have k := k.2 hc
    refine aw_aload_n 0 dX10_answered_5 rfl rfl ?_
    obtain ⟨o2, k⟩ := k
    refine aw_getR dX10_answered_6 fl_X10_28 rfl o2 (x := (h v0 6)) rfl ?_
    refine aw_iload_n 1 dX10_answered_9 rfl rfl ?_
    obtain ⟨o3, k⟩ := k
    obtain ⟨o4, k⟩ := k
    obtain ⟨o5, k⟩ := k
    refine aw_iald dX10_answered_10 o3 o4 o5 (x := (h (h v0 6) v1)) rfl ?_
    refine aw_if_eq (tgt := 35) dX10_answered_11 (by decide) (fun hc => ?_) (fun hc => ?_)
    · have k := k.1 hc
      exact aw_vret dX10_answered_35 rfl k
    · have k := k.2 hc
      refine aw_iload_n 2 dX10_answered_14 rfl rfl ?_
      refine aw_aload_n 0 dX10_answered_15 rfl rfl ?_
      refine aw_iload_n 1 dX10_answered_16 rfl rfl ?_
      refine aw_callV (M' := mm_X10_oldest) 10 [vI v1] [vI v2] lk_X10_272 ⟨_, rfl, rfl⟩ dX10_answered_17 rfl (Nat.le_of_ble_eq_true rfl) ⟨by decide, by decide, Nat.zero_le _, Nat.zero_le _⟩ o2 ?_
      exact k
theorem rn_X10_answered {G : GG} {Q : Option VV → Hp → Prop} {v0 v1 v2 v3 : Int} {h : Hp} (k : ((¬ v3 = 2) → (h v0 (-1) = 11) ∧ Runs G mm_X10_isOpen [vR v0, vI v1, vI v2] h (fun r h' => AW G mm_X10_answered (0, 0) 32 [(0, vR v0), (1, vI v1), (2, vI v2), (3, vI v3)] (r.toList ++ []) h' Q)) ∧ ((v3 = 2) → (h v0 (-1) = 11) ∧ (h (h v0 6) (-1) = 20) ∧ (0 ≤ v1) ∧ (v1 < h (h v0 6) (-2)) ∧ (((h (h v0 6) v1) = 0) → Q none h) ∧ ((¬ ((h (h v0 6) v1) = 0)) → Runs G mm_X10_oldest [vR v0, vI v1] h (fun r h' => AW G mm_X10_answered (0, 0) 20 [(0, vR v0), (1, vI v1), (2, vI v2), (3, vI v3)] (r.toList ++ [vI v2]) h' Q)))) : Runs G mm_X10_answered [vR v0, vI v1, vI v2, vI v3] h Q := Runs.of (by decide +kernel) (Nat.le_of_ble_eq_true rfl) (sg_X10_answered_0 (b := (0, 0)) k)
set_option maxRecDepth 20000 in
theorem sg_X10_answered_32 {G : GG} {b : Nat × Nat} {Q : Option VV → Hp → Prop} {v0 v1 v2 v3 s0 : Int} {h : Hp} (k : ((¬ s0 = 0) → AW G mm_X10_answered b 36 [(0, vR v0), (1, vI v1), (2, vI v2), (3, vI v3)] [] h Q) ∧ ((s0 = 0) → Q none h)) : AW G mm_X10_answered b 32 [(0, vR v0), (1, vI v1), (2, vI v2), (3, vI v3)] [vI s0] h Q := by
  refine aw_if_ne (tgt := 36) dX10_answered_32 (by decide) (fun hc => ?_) (fun hc => ?_)
  · have k := k.1 hc
    exact k
  · have k := k.2 hc
    exact aw_vret dX10_answered_35 rfl k
set_option maxRecDepth 20000 in
theorem sg_X10_answered_20 {G : GG} {b : Nat × Nat} {Q : Option VV → Hp → Prop} {v0 v1 v2 v3 s0 s1 : Int} {h : Hp} (k : ((s0 ≤ s1) → AW G mm_X10_answered b 36 [(0, vR v0), (1, vI v1), (2, vI v2), (3, vI v3)] [] h Q) ∧ ((¬ (s0 ≤ s1)) → Q none h)) : AW G mm_X10_answered b 20 [(0, vR v0), (1, vI v1), (2, vI v2), (3, vI v3)] [vI s0, vI s1] h Q := by
  refine aw_icmp_ge (tgt := 36) dX10_answered_20 (by decide) (fun hc => ?_) (fun hc => ?_)
  · have k := k.1 hc
    exact k
  · have k := k.2 hc
    refine aw_goto (tgt := 35) dX10_answered_23 (by decide) ?_
    exact aw_vret dX10_answered_35 rfl k
set_option maxRecDepth 20000 in
theorem sg_X10_answered_36 {G : GG} {b : Nat × Nat} {Q : Option VV → Hp → Prop} {v0 v1 v2 v3 : Int} {h : Hp} (k : (h v0 (-1) = 11) ∧ (h (h v0 6) (-1) = 20) ∧ (0 ≤ v1) ∧ (v1 < h (h v0 6) (-2)) ∧ (((h (h v0 6) v1) ≤ 0) → ((¬ v3 = 2) → ((¬ v3 = 1) → ((¬ v3 = 3) → (h (h v0 38) (-1) = 20) ∧ (8 < h (h v0 38) (-2)) ∧ Runs G mm_X10_tellsOldest [vR v0, vI v1, vI 1, vI (h (h v0 38) 8)] h (fun r h' => AW G mm_X10_answered b 235 [(0, vR v0), (1, vI v1)] (r.toList ++ []) h' Q)) ∧ ((v3 = 3) → (h (h v0 12) (-1) = 20) ∧ (v1 < h (h v0 12) (-2)) ∧ (inI ((h (h v0 12) v1) + 1)) ∧ ∀ h1, h1 = wr h (h v0 12) v1 ((h (h v0 12) v1) + 1) → ((¬ ((h (h v0 12) v1) + 1) = 4) → Q none h1) ∧ ((((h (h v0 12) v1) + 1) = 4) → Runs G mm_X10_tellsOldest [vR v0, vI v1, vI 4, vI 0] h1 (fun r h' => AW G mm_X10_answered b 214 [(0, vR v0), (1, vI v1)] (r.toList ++ []) h' Q)))) ∧ ((v3 = 1) → (inI (28 * v1)) ∧ (inI ((28 * v1) + 1)) ∧ (h (h v0 7) (-1) = 20) ∧ (0 ≤ ((28 * v1) + 1)) ∧ (((28 * v1) + 1) < h (h v0 7) (-2)) ∧ (inI ((28 * v1) + 6)) ∧ (0 ≤ ((28 * v1) + 6)) ∧ (((28 * v1) + 6) < h (h v0 7) (-2)) ∧ (h (h v0 38) (-1) = 20) ∧ (8 < h (h v0 38) (-2)) ∧ Runs G mm_X10_tellsOldest [vR v0, vI v1, vI 0, vI (h (h v0 38) 8)] h (fun r h' => AW G mm_X10_answered b 152 [(0, vR v0), (1, vI v1), (4, vI (h (h v0 7) ((28 * v1) + 1))), (5, vI (h (h v0 7) ((28 * v1) + 6)))] (r.toList ++ []) h' Q))) ∧ ((v3 = 2) → (((h (h v0 6) v1) ≤ 0) → Q none h) ∧ ((¬ ((h (h v0 6) v1) ≤ 0)) → Runs G mm_X10_again [vR v0, vI v1] h (fun r h' => AW G mm_X10_answered b 104 [] (r.toList ++ []) h' Q)))) ∧ ((¬ ((h (h v0 6) v1) ≤ 0)) → Runs G mm_X10_oldest [vR v0, vI v1] h (fun r h' => AW G mm_X10_answered b 50 [(0, vR v0), (1, vI v1), (2, vI v2), (3, vI v3)] (r.toList ++ []) h' Q))) : AW G mm_X10_answered b 36 [(0, vR v0), (1, vI v1), (2, vI v2), (3, vI v3)] [] h Q := by
  refine aw_aload_n 0 dX10_answered_36 rfl rfl ?_
  obtain ⟨o1, k⟩ := k
  refine aw_getR dX10_answered_37 fl_X10_28 rfl o1 (x := (h v0 6)) rfl ?_
  refine aw_iload_n 1 dX10_answered_40 rfl rfl ?_
  obtain ⟨o2, k⟩ := k
  obtain ⟨o3, k⟩ := k
  obtain ⟨o4, k⟩ := k
  refine aw_iald dX10_answered_41 o2 o3 o4 (x := (h (h v0 6) v1)) rfl ?_
  refine aw_if_le (tgt := 85) dX10_answered_42 (by decide) (fun hc => ?_) (fun hc => ?_)
  · have k := k.1 hc
    refine aw_iload_n 3 dX10_answered_85 rfl rfl ?_
    refine aw_iconst dX10_answered_86 ⟨by decide, by decide⟩ ?_
    refine aw_icmp_ne (tgt := 107) dX10_answered_87 (by decide) (fun hc => ?_) (fun hc => ?_)
    · have k := k.1 hc
      refine aw_iload_n 3 dX10_answered_107 rfl rfl ?_
      refine aw_iconst dX10_answered_108 ⟨by decide, by decide⟩ ?_
      refine aw_icmp_ne (tgt := 182) dX10_answered_109 (by decide) (fun hc => ?_) (fun hc => ?_)
      · have k := k.1 hc
        refine aw_iload_n 3 dX10_answered_182 rfl rfl ?_
        refine aw_iconst dX10_answered_183 ⟨by decide, by decide⟩ ?_
        refine aw_icmp_ne (tgt := 222) dX10_answered_184 (by decide) (fun hc => ?_) (fun hc => ?_)
        · have k := k.1 hc
          refine aw_aload_n 0 dX10_answered_222 rfl rfl ?_
          refine aw_iload_n 1 dX10_answered_223 rfl rfl ?_
          refine aw_iconst dX10_answered_224 ⟨by decide, by decide⟩ ?_
          refine aw_aload_n 0 dX10_answered_225 rfl rfl ?_
          refine aw_getR dX10_answered_226 fl_X10_92 rfl o1 (x := (h v0 38)) rfl ?_
          refine aw_bipush dX10_answered_229 ⟨by decide, by decide⟩ (by decide) ?_
          obtain ⟨o5, k⟩ := k
          obtain ⟨o6, k⟩ := k
          refine aw_iald dX10_answered_231 o5 (by decide) o6 (x := (h (h v0 38) 8)) rfl ?_
          refine aw_callV (M' := mm_X10_tellsOldest) 10 [vI v1, vI 1, vI (h (h v0 38) 8)] [] lk_X10_245 ⟨_, rfl, rfl⟩ dX10_answered_232 rfl (Nat.le_of_ble_eq_true rfl) ⟨by decide, by decide, Nat.zero_le _, Nat.zero_le _⟩ o1 ?_
          exact k.mono (fun _ _ z => aw_sub [0, 1] rfl z)
        · have k := k.2 hc
          refine aw_aload_n 0 dX10_answered_187 rfl rfl ?_
          refine aw_getR dX10_answered_188 fl_X10_46 rfl o1 (x := (h v0 12)) rfl ?_
          refine aw_iload_n 1 dX10_answered_191 rfl rfl ?_
          refine aw_dup2 dX10_answered_192 rfl rfl ?_
          obtain ⟨o7, k⟩ := k
          obtain ⟨o8, k⟩ := k
          refine aw_iald dX10_answered_193 o7 o3 o8 (x := (h (h v0 12) v1)) rfl ?_
          refine aw_iconst dX10_answered_194 ⟨by decide, by decide⟩ ?_
          obtain ⟨o9, k⟩ := k
          refine aw_iadd dX10_answered_195 o9 ?_
          refine aw_iast dX10_answered_196 o7 o3 o8 ?_
          refine aw_hp (fun h1 e10 => ?_)
          have k := k h1 e10
          refine aw_aload_n 0 dX10_answered_197 rfl rfl ?_
          have q11 := sh_w e10 o3 o1
          refine aw_getR dX10_answered_198 fl_X10_46 rfl q11 (x := (h v0 12)) (rd_a e10 v0 12 (ne_sh o7 o1 (by decide))) ?_
          refine aw_iload_n 1 dX10_answered_201 rfl rfl ?_
          have q12 := sh_w e10 o3 o7
          refine aw_iald dX10_answered_202 q12 o3 (lt_l (ln_w e10 (h v0 12) o3) o8) (x := ((h (h v0 12) v1) + 1)) (rd_e e10) ?_
          refine aw_iconst dX10_answered_203 ⟨by decide, by decide⟩ ?_
          refine aw_icmp_ne (tgt := 240) dX10_answered_204 (by decide) (fun hc => ?_) (fun hc => ?_)
          · have k := k.1 hc
            exact aw_vret dX10_answered_240 rfl k
          · have k := k.2 hc
            refine aw_aload_n 0 dX10_answered_207 rfl rfl ?_
            refine aw_iload_n 1 dX10_answered_208 rfl rfl ?_
            refine aw_iconst dX10_answered_209 ⟨by decide, by decide⟩ ?_
            refine aw_iconst dX10_answered_210 ⟨by decide, by decide⟩ ?_
            refine aw_callV (M' := mm_X10_tellsOldest) 10 [vI v1, vI 4, vI 0] [] lk_X10_245 ⟨_, rfl, rfl⟩ dX10_answered_211 rfl (Nat.le_of_ble_eq_true rfl) ⟨by decide, by decide, Nat.zero_le _, Nat.zero_le _⟩ q11 ?_
            exact k.mono (fun _ _ z => aw_sub [0, 1] rfl z)
      · have k := k.2 hc
        refine aw_aload_n 0 dX10_answered_112 rfl rfl ?_
        refine aw_getR dX10_answered_113 fl_X10_31 rfl o1 (x := (h v0 7)) rfl ?_
        refine aw_bipush dX10_answered_116 ⟨by decide, by decide⟩ (by decide) ?_
        refine aw_iload_n 1 dX10_answered_118 rfl rfl ?_
        obtain ⟨o13, k⟩ := k
        refine aw_imul dX10_answered_119 o13 ?_
        refine aw_iconst dX10_answered_120 ⟨by decide, by decide⟩ ?_
        obtain ⟨o14, k⟩ := k
        refine aw_iadd dX10_answered_121 o14 ?_
        obtain ⟨o15, k⟩ := k
        obtain ⟨o16, k⟩ := k
        obtain ⟨o17, k⟩ := k
        refine aw_iald dX10_answered_122 o15 o16 o17 (x := (h (h v0 7) ((28 * v1) + 1))) rfl ?_
        refine aw_istore dX10_answered_123 (by decide) ?_
        refine aw_aload_n 1 dX10_answered_125 rfl rfl ?_
        refine aw_getR dX10_answered_126 fl_X10_31 rfl o1 (x := (h v0 7)) rfl ?_
        refine aw_bipush dX10_answered_129 ⟨by decide, by decide⟩ (by decide) ?_
        refine aw_iload_n 2 dX10_answered_131 rfl rfl ?_
        refine aw_imul dX10_answered_132 o13 ?_
        refine aw_bipush dX10_answered_133 ⟨by decide, by decide⟩ (by decide) ?_
        obtain ⟨o18, k⟩ := k
        refine aw_iadd dX10_answered_135 o18 ?_
        obtain ⟨o19, k⟩ := k
        obtain ⟨o20, k⟩ := k
        refine aw_iald dX10_answered_136 o15 o19 o20 (x := (h (h v0 7) ((28 * v1) + 6))) rfl ?_
        refine aw_istore dX10_answered_137 (by decide) ?_
        refine aw_aload_n 2 dX10_answered_139 rfl rfl ?_
        refine aw_iload_n 3 dX10_answered_140 rfl rfl ?_
        refine aw_iconst dX10_answered_141 ⟨by decide, by decide⟩ ?_
        refine aw_aload_n 2 dX10_answered_142 rfl rfl ?_
        refine aw_getR dX10_answered_143 fl_X10_92 rfl o1 (x := (h v0 38)) rfl ?_
        refine aw_bipush dX10_answered_146 ⟨by decide, by decide⟩ (by decide) ?_
        obtain ⟨o21, k⟩ := k
        obtain ⟨o22, k⟩ := k
        refine aw_iald dX10_answered_148 o21 (by decide) o22 (x := (h (h v0 38) 8)) rfl ?_
        refine aw_callV (M' := mm_X10_tellsOldest) 10 [vI v1, vI 0, vI (h (h v0 38) 8)] [] lk_X10_245 ⟨_, rfl, rfl⟩ dX10_answered_149 rfl (Nat.le_of_ble_eq_true rfl) ⟨by decide, by decide, Nat.zero_le _, Nat.zero_le _⟩ o1 ?_
        exact k.mono (fun _ _ z => aw_sub [2, 3, 1, 0] rfl z)
    · have k := k.2 hc
      refine aw_aload_n 0 dX10_answered_90 rfl rfl ?_
      refine aw_getR dX10_answered_91 fl_X10_28 rfl o1 (x := (h v0 6)) rfl ?_
      refine aw_iload_n 1 dX10_answered_94 rfl rfl ?_
      refine aw_iald dX10_answered_95 o2 o3 o4 (x := (h (h v0 6) v1)) rfl ?_
      refine aw_if_le (tgt := 240) dX10_answered_96 (by decide) (fun hc => ?_) (fun hc => ?_)
      · have k := k.1 hc
        exact aw_vret dX10_answered_240 rfl k
      · have k := k.2 hc
        refine aw_aload_n 0 dX10_answered_99 rfl rfl ?_
        refine aw_iload_n 1 dX10_answered_100 rfl rfl ?_
        refine aw_callV (M' := mm_X10_again) 10 [vI v1] [] lk_X10_279 ⟨_, rfl, rfl⟩ dX10_answered_101 rfl (Nat.le_of_ble_eq_true rfl) ⟨by decide, by decide, Nat.zero_le _, Nat.zero_le _⟩ o1 ?_
        exact k.mono (fun _ _ z => aw_sub [] rfl z)
  · have k := k.2 hc
    refine aw_aload_n 0 dX10_answered_45 rfl rfl ?_
    refine aw_iload_n 1 dX10_answered_46 rfl rfl ?_
    refine aw_callV (M' := mm_X10_oldest) 10 [vI v1] [] lk_X10_272 ⟨_, rfl, rfl⟩ dX10_answered_47 rfl (Nat.le_of_ble_eq_true rfl) ⟨by decide, by decide, Nat.zero_le _, Nat.zero_le _⟩ o1 ?_
    exact k
set_option maxRecDepth 20000 in
theorem sg_X10_answered_235 {G : GG} {b : Nat × Nat} {Q : Option VV → Hp → Prop} {v0 v1 : Int} {h : Hp} (k : (h v0 (-1) = 11) ∧ Runs G mm_X10_breaks [vR v0, vI v1] h (fun r h' => AW G mm_X10_answered b 240 [] (r.toList ++ []) h' Q)) : AW G mm_X10_answered b 235 [(0, vR v0), (1, vI v1)] [] h Q := by
  refine aw_aload_n 0 dX10_answered_235 rfl rfl ?_
  refine aw_iload_n 1 dX10_answered_236 rfl rfl ?_
  obtain ⟨o1, k⟩ := k
  refine aw_callV (M' := mm_X10_breaks) 10 [vI v1] [] lk_X10_223 ⟨_, rfl, rfl⟩ dX10_answered_237 rfl (Nat.le_of_ble_eq_true rfl) ⟨by decide, by decide, Nat.zero_le _, Nat.zero_le _⟩ o1 ?_
  exact k.mono (fun _ _ z => aw_sub [] rfl z)
set_option maxRecDepth 20000 in
theorem sg_X10_answered_214 {G : GG} {b : Nat × Nat} {Q : Option VV → Hp → Prop} {v0 v1 : Int} {h : Hp} (k : (h v0 (-1) = 11) ∧ Runs G mm_X10_breaks [vR v0, vI v1] h (fun r h' => AW G mm_X10_answered b 219 [] (r.toList ++ []) h' Q)) : AW G mm_X10_answered b 214 [(0, vR v0), (1, vI v1)] [] h Q := by
  refine aw_aload_n 0 dX10_answered_214 rfl rfl ?_
  refine aw_iload_n 1 dX10_answered_215 rfl rfl ?_
  obtain ⟨o1, k⟩ := k
  refine aw_callV (M' := mm_X10_breaks) 10 [vI v1] [] lk_X10_223 ⟨_, rfl, rfl⟩ dX10_answered_216 rfl (Nat.le_of_ble_eq_true rfl) ⟨by decide, by decide, Nat.zero_le _, Nat.zero_le _⟩ o1 ?_
  exact k.mono (fun _ _ z => aw_sub [] rfl z)
set_option maxRecDepth 20000 in
theorem sg_X10_answered_152 {G : GG} {b : Nat × Nat} {Q : Option VV → Hp → Prop} {v0 v1 v4 v5 : Int} {h : Hp} (k : ((v4 ≤ 1) → Q none h) ∧ ((¬ (v4 ≤ 1)) → (h v0 (-1) = 11) ∧ (0 ≤ v1) ∧ (inI (12 * (v1 % 2))) ∧ (inI ((12 * (v1 % 2)) + v5)) ∧ (h (h v0 38) (-1) = 20) ∧ (8 < h (h v0 38) (-2)) ∧ (h (h v0 0) (-1) = 20) ∧ (0 ≤ ((12 * (v1 % 2)) + v5)) ∧ (((12 * (v1 % 2)) + v5) < h (h v0 0) (-2)) ∧ ∀ h1, h1 = wr h (h v0 0) ((12 * (v1 % 2)) + v5) (h (h v0 38) 8) → Q none h1)) : AW G mm_X10_answered b 152 [(0, vR v0), (1, vI v1), (4, vI v4), (5, vI v5)] [] h Q := by
  refine aw_iload 2 dX10_answered_152 rfl ?_
  refine aw_iconst dX10_answered_154 ⟨by decide, by decide⟩ ?_
  refine aw_icmp_le (tgt := 179) dX10_answered_155 (by decide) (fun hc => ?_) (fun hc => ?_)
  · have k := k.1 hc
    refine aw_goto (tgt := 240) dX10_answered_179 (by decide) ?_
    exact aw_vret dX10_answered_240 rfl k
  · have k := k.2 hc
    refine aw_aload_n 0 dX10_answered_158 rfl rfl ?_
    obtain ⟨o1, k⟩ := k
    refine aw_getR dX10_answered_159 fl_X10_7 rfl o1 (x := (h v0 0)) rfl ?_
    refine aw_bipush dX10_answered_162 ⟨by decide, by decide⟩ (by decide) ?_
    refine aw_iload_n 1 dX10_answered_164 rfl rfl ?_
    refine aw_iconst dX10_answered_165 ⟨by decide, by decide⟩ ?_
    obtain ⟨o2, k⟩ := k
    refine aw_irem dX10_answered_166 o2 (by decide) ?_
    obtain ⟨o3, k⟩ := k
    refine aw_imul dX10_answered_167 o3 ?_
    refine aw_iload 3 dX10_answered_168 rfl ?_
    obtain ⟨o4, k⟩ := k
    refine aw_iadd dX10_answered_170 o4 ?_
    refine aw_aload_n 0 dX10_answered_171 rfl rfl ?_
    refine aw_getR dX10_answered_172 fl_X10_92 rfl o1 (x := (h v0 38)) rfl ?_
    refine aw_bipush dX10_answered_175 ⟨by decide, by decide⟩ (by decide) ?_
    obtain ⟨o5, k⟩ := k
    obtain ⟨o6, k⟩ := k
    refine aw_iald dX10_answered_177 o5 (by decide) o6 (x := (h (h v0 38) 8)) rfl ?_
    obtain ⟨o7, k⟩ := k
    obtain ⟨o8, k⟩ := k
    obtain ⟨o9, k⟩ := k
    refine aw_iast dX10_answered_178 o7 o8 o9 ?_
    refine aw_hp (fun h1 e10 => ?_)
    have k := k h1 e10
    refine aw_goto (tgt := 240) dX10_answered_179 (by decide) ?_
    exact aw_vret dX10_answered_240 rfl k
set_option maxRecDepth 20000 in
theorem sg_X10_answered_104 {G : GG} {b : Nat × Nat} {Q : Option VV → Hp → Prop} {h : Hp} (k : Q none h) : AW G mm_X10_answered b 104 [] [] h Q := by
  refine aw_goto (tgt := 240) dX10_answered_104 (by decide) ?_
  exact aw_vret dX10_answered_240 rfl k
set_option maxRecDepth 20000 in
theorem sg_X10_answered_50 {G : GG} {b : Nat × Nat} {Q : Option VV → Hp → Prop} {v0 v1 v2 v3 s0 : Int} {h : Hp} (k : ((v2 ≤ s0) → ((¬ v3 = 2) → ((¬ v3 = 1) → ((¬ v3 = 3) → (h v0 (-1) = 11) ∧ (h (h v0 38) (-1) = 20) ∧ (8 < h (h v0 38) (-2)) ∧ Runs G mm_X10_tellsOldest [vR v0, vI v1, vI 1, vI (h (h v0 38) 8)] h (fun r h' => AW G mm_X10_answered b 235 [(0, vR v0), (1, vI v1)] (r.toList ++ []) h' Q)) ∧ ((v3 = 3) → (h v0 (-1) = 11) ∧ (h (h v0 12) (-1) = 20) ∧ (0 ≤ v1) ∧ (v1 < h (h v0 12) (-2)) ∧ (inI ((h (h v0 12) v1) + 1)) ∧ ∀ h1, h1 = wr h (h v0 12) v1 ((h (h v0 12) v1) + 1) → ((¬ ((h (h v0 12) v1) + 1) = 4) → Q none h1) ∧ ((((h (h v0 12) v1) + 1) = 4) → Runs G mm_X10_tellsOldest [vR v0, vI v1, vI 4, vI 0] h1 (fun r h' => AW G mm_X10_answered b 214 [(0, vR v0), (1, vI v1)] (r.toList ++ []) h' Q)))) ∧ ((v3 = 1) → (h v0 (-1) = 11) ∧ (inI (28 * v1)) ∧ (inI ((28 * v1) + 1)) ∧ (h (h v0 7) (-1) = 20) ∧ (0 ≤ ((28 * v1) + 1)) ∧ (((28 * v1) + 1) < h (h v0 7) (-2)) ∧ (inI ((28 * v1) + 6)) ∧ (0 ≤ ((28 * v1) + 6)) ∧ (((28 * v1) + 6) < h (h v0 7) (-2)) ∧ (h (h v0 38) (-1) = 20) ∧ (8 < h (h v0 38) (-2)) ∧ Runs G mm_X10_tellsOldest [vR v0, vI v1, vI 0, vI (h (h v0 38) 8)] h (fun r h' => AW G mm_X10_answered b 152 [(0, vR v0), (1, vI v1), (4, vI (h (h v0 7) ((28 * v1) + 1))), (5, vI (h (h v0 7) ((28 * v1) + 6)))] (r.toList ++ []) h' Q))) ∧ ((v3 = 2) → (h v0 (-1) = 11) ∧ (h (h v0 6) (-1) = 20) ∧ (0 ≤ v1) ∧ (v1 < h (h v0 6) (-2)) ∧ (((h (h v0 6) v1) ≤ 0) → Q none h) ∧ ((¬ ((h (h v0 6) v1) ≤ 0)) → Runs G mm_X10_again [vR v0, vI v1] h (fun r h' => AW G mm_X10_answered b 104 [] (r.toList ++ []) h' Q)))) ∧ ((¬ (v2 ≤ s0)) → (h v0 (-1) = 11) ∧ (inI (28 * v1)) ∧ (inI ((28 * v1) + 1)) ∧ (h (h v0 7) (-1) = 20) ∧ (0 ≤ ((28 * v1) + 1)) ∧ (((28 * v1) + 1) < h (h v0 7) (-2)) ∧ (((h (h v0 7) ((28 * v1) + 1)) ≤ 1) → Runs G mm_X10_tellsOldest [vR v0, vI v1, vI 0, vI 0] h (fun r h' => AW G mm_X10_answered b 82 [(0, vR v0), (1, vI v1), (2, vI v2), (3, vI v3)] (r.toList ++ []) h' Q)) ∧ ((¬ ((h (h v0 7) ((28 * v1) + 1)) ≤ 1)) → Runs G mm_X10_again [vR v0, vI v1] h (fun r h' => AW G mm_X10_answered b 74 [] (r.toList ++ []) h' Q)))) : AW G mm_X10_answered b 50 [(0, vR v0), (1, vI v1), (2, vI v2), (3, vI v3)] [vI s0] h Q := by
  refine aw_iload_n 2 dX10_answered_50 rfl rfl ?_
  refine aw_icmp_ge (tgt := 85) dX10_answered_51 (by decide) (fun hc => ?_) (fun hc => ?_)
  · have k := k.1 hc
    refine aw_iload_n 3 dX10_answered_85 rfl rfl ?_
    refine aw_iconst dX10_answered_86 ⟨by decide, by decide⟩ ?_
    refine aw_icmp_ne (tgt := 107) dX10_answered_87 (by decide) (fun hc => ?_) (fun hc => ?_)
    · have k := k.1 hc
      refine aw_iload_n 3 dX10_answered_107 rfl rfl ?_
      refine aw_iconst dX10_answered_108 ⟨by decide, by decide⟩ ?_
      refine aw_icmp_ne (tgt := 182) dX10_answered_109 (by decide) (fun hc => ?_) (fun hc => ?_)
      · have k := k.1 hc
        refine aw_iload_n 3 dX10_answered_182 rfl rfl ?_
        refine aw_iconst dX10_answered_183 ⟨by decide, by decide⟩ ?_
        refine aw_icmp_ne (tgt := 222) dX10_answered_184 (by decide) (fun hc => ?_) (fun hc => ?_)
        · have k := k.1 hc
          refine aw_aload_n 0 dX10_answered_222 rfl rfl ?_
          refine aw_iload_n 1 dX10_answered_223 rfl rfl ?_
          refine aw_iconst dX10_answered_224 ⟨by decide, by decide⟩ ?_
          refine aw_aload_n 0 dX10_answered_225 rfl rfl ?_
          obtain ⟨o1, k⟩ := k
          refine aw_getR dX10_answered_226 fl_X10_92 rfl o1 (x := (h v0 38)) rfl ?_
          refine aw_bipush dX10_answered_229 ⟨by decide, by decide⟩ (by decide) ?_
          obtain ⟨o2, k⟩ := k
          obtain ⟨o3, k⟩ := k
          refine aw_iald dX10_answered_231 o2 (by decide) o3 (x := (h (h v0 38) 8)) rfl ?_
          refine aw_callV (M' := mm_X10_tellsOldest) 10 [vI v1, vI 1, vI (h (h v0 38) 8)] [] lk_X10_245 ⟨_, rfl, rfl⟩ dX10_answered_232 rfl (Nat.le_of_ble_eq_true rfl) ⟨by decide, by decide, Nat.zero_le _, Nat.zero_le _⟩ o1 ?_
          exact k.mono (fun _ _ z => aw_sub [0, 1] rfl z)
        · have k := k.2 hc
          refine aw_aload_n 0 dX10_answered_187 rfl rfl ?_
          obtain ⟨o4, k⟩ := k
          refine aw_getR dX10_answered_188 fl_X10_46 rfl o4 (x := (h v0 12)) rfl ?_
          refine aw_iload_n 1 dX10_answered_191 rfl rfl ?_
          refine aw_dup2 dX10_answered_192 rfl rfl ?_
          obtain ⟨o5, k⟩ := k
          obtain ⟨o6, k⟩ := k
          obtain ⟨o7, k⟩ := k
          refine aw_iald dX10_answered_193 o5 o6 o7 (x := (h (h v0 12) v1)) rfl ?_
          refine aw_iconst dX10_answered_194 ⟨by decide, by decide⟩ ?_
          obtain ⟨o8, k⟩ := k
          refine aw_iadd dX10_answered_195 o8 ?_
          refine aw_iast dX10_answered_196 o5 o6 o7 ?_
          refine aw_hp (fun h1 e9 => ?_)
          have k := k h1 e9
          refine aw_aload_n 0 dX10_answered_197 rfl rfl ?_
          have q10 := sh_w e9 o6 o4
          refine aw_getR dX10_answered_198 fl_X10_46 rfl q10 (x := (h v0 12)) (rd_a e9 v0 12 (ne_sh o5 o4 (by decide))) ?_
          refine aw_iload_n 1 dX10_answered_201 rfl rfl ?_
          have q11 := sh_w e9 o6 o5
          refine aw_iald dX10_answered_202 q11 o6 (lt_l (ln_w e9 (h v0 12) o6) o7) (x := ((h (h v0 12) v1) + 1)) (rd_e e9) ?_
          refine aw_iconst dX10_answered_203 ⟨by decide, by decide⟩ ?_
          refine aw_icmp_ne (tgt := 240) dX10_answered_204 (by decide) (fun hc => ?_) (fun hc => ?_)
          · have k := k.1 hc
            exact aw_vret dX10_answered_240 rfl k
          · have k := k.2 hc
            refine aw_aload_n 0 dX10_answered_207 rfl rfl ?_
            refine aw_iload_n 1 dX10_answered_208 rfl rfl ?_
            refine aw_iconst dX10_answered_209 ⟨by decide, by decide⟩ ?_
            refine aw_iconst dX10_answered_210 ⟨by decide, by decide⟩ ?_
            refine aw_callV (M' := mm_X10_tellsOldest) 10 [vI v1, vI 4, vI 0] [] lk_X10_245 ⟨_, rfl, rfl⟩ dX10_answered_211 rfl (Nat.le_of_ble_eq_true rfl) ⟨by decide, by decide, Nat.zero_le _, Nat.zero_le _⟩ q10 ?_
            exact k.mono (fun _ _ z => aw_sub [0, 1] rfl z)
      · have k := k.2 hc
        refine aw_aload_n 0 dX10_answered_112 rfl rfl ?_
        obtain ⟨o12, k⟩ := k
        refine aw_getR dX10_answered_113 fl_X10_31 rfl o12 (x := (h v0 7)) rfl ?_
        refine aw_bipush dX10_answered_116 ⟨by decide, by decide⟩ (by decide) ?_
        refine aw_iload_n 1 dX10_answered_118 rfl rfl ?_
        obtain ⟨o13, k⟩ := k
        refine aw_imul dX10_answered_119 o13 ?_
        refine aw_iconst dX10_answered_120 ⟨by decide, by decide⟩ ?_
        obtain ⟨o14, k⟩ := k
        refine aw_iadd dX10_answered_121 o14 ?_
        obtain ⟨o15, k⟩ := k
        obtain ⟨o16, k⟩ := k
        obtain ⟨o17, k⟩ := k
        refine aw_iald dX10_answered_122 o15 o16 o17 (x := (h (h v0 7) ((28 * v1) + 1))) rfl ?_
        refine aw_istore dX10_answered_123 (by decide) ?_
        refine aw_aload_n 1 dX10_answered_125 rfl rfl ?_
        refine aw_getR dX10_answered_126 fl_X10_31 rfl o12 (x := (h v0 7)) rfl ?_
        refine aw_bipush dX10_answered_129 ⟨by decide, by decide⟩ (by decide) ?_
        refine aw_iload_n 2 dX10_answered_131 rfl rfl ?_
        refine aw_imul dX10_answered_132 o13 ?_
        refine aw_bipush dX10_answered_133 ⟨by decide, by decide⟩ (by decide) ?_
        obtain ⟨o18, k⟩ := k
        refine aw_iadd dX10_answered_135 o18 ?_
        obtain ⟨o19, k⟩ := k
        obtain ⟨o20, k⟩ := k
        refine aw_iald dX10_answered_136 o15 o19 o20 (x := (h (h v0 7) ((28 * v1) + 6))) rfl ?_
        refine aw_istore dX10_answered_137 (by decide) ?_
        refine aw_aload_n 2 dX10_answered_139 rfl rfl ?_
        refine aw_iload_n 3 dX10_answered_140 rfl rfl ?_
        refine aw_iconst dX10_answered_141 ⟨by decide, by decide⟩ ?_
        refine aw_aload_n 2 dX10_answered_142 rfl rfl ?_
        refine aw_getR dX10_answered_143 fl_X10_92 rfl o12 (x := (h v0 38)) rfl ?_
        refine aw_bipush dX10_answered_146 ⟨by decide, by decide⟩ (by decide) ?_
        obtain ⟨o21, k⟩ := k
        obtain ⟨o22, k⟩ := k
        refine aw_iald dX10_answered_148 o21 (by decide) o22 (x := (h (h v0 38) 8)) rfl ?_
        refine aw_callV (M' := mm_X10_tellsOldest) 10 [vI v1, vI 0, vI (h (h v0 38) 8)] [] lk_X10_245 ⟨_, rfl, rfl⟩ dX10_answered_149 rfl (Nat.le_of_ble_eq_true rfl) ⟨by decide, by decide, Nat.zero_le _, Nat.zero_le _⟩ o12 ?_
        exact k.mono (fun _ _ z => aw_sub [2, 3, 1, 0] rfl z)
    · have k := k.2 hc
      refine aw_aload_n 0 dX10_answered_90 rfl rfl ?_
      obtain ⟨o23, k⟩ := k
      refine aw_getR dX10_answered_91 fl_X10_28 rfl o23 (x := (h v0 6)) rfl ?_
      refine aw_iload_n 1 dX10_answered_94 rfl rfl ?_
      obtain ⟨o24, k⟩ := k
      obtain ⟨o25, k⟩ := k
      obtain ⟨o26, k⟩ := k
      refine aw_iald dX10_answered_95 o24 o25 o26 (x := (h (h v0 6) v1)) rfl ?_
      refine aw_if_le (tgt := 240) dX10_answered_96 (by decide) (fun hc => ?_) (fun hc => ?_)
      · have k := k.1 hc
        exact aw_vret dX10_answered_240 rfl k
      · have k := k.2 hc
        refine aw_aload_n 0 dX10_answered_99 rfl rfl ?_
        refine aw_iload_n 1 dX10_answered_100 rfl rfl ?_
        refine aw_callV (M' := mm_X10_again) 10 [vI v1] [] lk_X10_279 ⟨_, rfl, rfl⟩ dX10_answered_101 rfl (Nat.le_of_ble_eq_true rfl) ⟨by decide, by decide, Nat.zero_le _, Nat.zero_le _⟩ o23 ?_
        exact k.mono (fun _ _ z => aw_sub [] rfl z)
  · have k := k.2 hc
    refine aw_aload_n 0 dX10_answered_54 rfl rfl ?_
    obtain ⟨o27, k⟩ := k
    refine aw_getR dX10_answered_55 fl_X10_31 rfl o27 (x := (h v0 7)) rfl ?_
    refine aw_bipush dX10_answered_58 ⟨by decide, by decide⟩ (by decide) ?_
    refine aw_iload_n 1 dX10_answered_60 rfl rfl ?_
    obtain ⟨o28, k⟩ := k
    refine aw_imul dX10_answered_61 o28 ?_
    refine aw_iconst dX10_answered_62 ⟨by decide, by decide⟩ ?_
    obtain ⟨o29, k⟩ := k
    refine aw_iadd dX10_answered_63 o29 ?_
    obtain ⟨o30, k⟩ := k
    obtain ⟨o31, k⟩ := k
    obtain ⟨o32, k⟩ := k
    refine aw_iald dX10_answered_64 o30 o31 o32 (x := (h (h v0 7) ((28 * v1) + 1))) rfl ?_
    refine aw_iconst dX10_answered_65 ⟨by decide, by decide⟩ ?_
    refine aw_icmp_le (tgt := 75) dX10_answered_66 (by decide) (fun hc => ?_) (fun hc => ?_)
    · have k := k.1 hc
      refine aw_aload_n 0 dX10_answered_75 rfl rfl ?_
      refine aw_iload_n 1 dX10_answered_76 rfl rfl ?_
      refine aw_iconst dX10_answered_77 ⟨by decide, by decide⟩ ?_
      refine aw_iconst dX10_answered_78 ⟨by decide, by decide⟩ ?_
      refine aw_callV (M' := mm_X10_tellsOldest) 10 [vI v1, vI 0, vI 0] [] lk_X10_245 ⟨_, rfl, rfl⟩ dX10_answered_79 rfl (Nat.le_of_ble_eq_true rfl) ⟨by decide, by decide, Nat.zero_le _, Nat.zero_le _⟩ o27 ?_
      exact k
    · have k := k.2 hc
      refine aw_aload_n 0 dX10_answered_69 rfl rfl ?_
      refine aw_iload_n 1 dX10_answered_70 rfl rfl ?_
      refine aw_callV (M' := mm_X10_again) 10 [vI v1] [] lk_X10_279 ⟨_, rfl, rfl⟩ dX10_answered_71 rfl (Nat.le_of_ble_eq_true rfl) ⟨by decide, by decide, Nat.zero_le _, Nat.zero_le _⟩ o27 ?_
      exact k.mono (fun _ _ z => aw_sub [] rfl z)
set_option maxRecDepth 20000 in
theorem sg_X10_answered_240 {G : GG} {b : Nat × Nat} {Q : Option VV → Hp → Prop} {h : Hp} (k : Q none h) : AW G mm_X10_answered b 240 [] [] h Q := by
  exact aw_vret dX10_answered_240 rfl k
set_option maxRecDepth 20000 in
theorem sg_X10_answered_219 {G : GG} {b : Nat × Nat} {Q : Option VV → Hp → Prop} {h : Hp} (k : Q none h) : AW G mm_X10_answered b 219 [] [] h Q := by
  refine aw_goto (tgt := 240) dX10_answered_219 (by decide) ?_
  exact aw_vret dX10_answered_240 rfl k
set_option maxRecDepth 20000 in
theorem sg_X10_answered_82 {G : GG} {b : Nat × Nat} {Q : Option VV → Hp → Prop} {v0 v1 v2 v3 : Int} {h : Hp} (k : AW G mm_X10_answered b 36 [(0, vR v0), (1, vI v1), (2, vI v2), (3, vI v3)] [] h Q) : AW G mm_X10_answered b 82 [(0, vR v0), (1, vI v1), (2, vI v2), (3, vI v3)] [] h Q := by
  refine aw_goto (tgt := 36) dX10_answered_82 (by decide) ?_
  exact k
set_option maxRecDepth 20000 in
theorem sg_X10_answered_74 {G : GG} {b : Nat × Nat} {Q : Option VV → Hp → Prop} {h : Hp} (k : Q none h) : AW G mm_X10_answered b 74 [] [] h Q := by
  exact aw_vret dX10_answered_74 rfl k
set_option maxRecDepth 20000 in
theorem sg_X10_breaks_0 {G : GG} {b : Nat × Nat} {Q : Option VV → Hp → Prop} {v0 v1 : Int} {h : Hp} (k : (h v0 (-1) = 11) ∧ (h (h v0 4) (-1) = 20) ∧ (0 ≤ v1) ∧ (v1 < h (h v0 4) (-2)) ∧ ∀ h1, h1 = wr h (h v0 4) v1 2 → AW G mm_X10_breaks b 7 [(0, vR v0), (1, vI v1)] [] h1 Q) : AW G mm_X10_breaks b 0 [(0, vR v0), (1, vI v1)] [] h Q := by
  refine aw_aload_n 0 dX10_breaks_0 rfl rfl ?_
  obtain ⟨o1, k⟩ := k
  refine aw_getR dX10_breaks_1 fl_X10_22 rfl o1 (x := (h v0 4)) rfl ?_
  refine aw_iload_n 1 dX10_breaks_4 rfl rfl ?_
  refine aw_iconst dX10_breaks_5 ⟨by decide, by decide⟩ ?_
  obtain ⟨o2, k⟩ := k
  obtain ⟨o3, k⟩ := k
  obtain ⟨o4, k⟩ := k
  refine aw_iast dX10_breaks_6 o2 o3 o4 ?_
  refine aw_hp (fun h1 e5 => ?_)
  have k := k h1 e5
  exact k
theorem rn_X10_breaks {G : GG} {Q : Option VV → Hp → Prop} {v0 v1 : Int} {h : Hp} (k : (h v0 (-1) = 11) ∧ (h (h v0 4) (-1) = 20) ∧ (0 ≤ v1) ∧ (v1 < h (h v0 4) (-2)) ∧ ∀ h1, h1 = wr h (h v0 4) v1 2 → AW G mm_X10_breaks (0, 0) 7 [(0, vR v0), (1, vI v1)] [] h1 Q) : Runs G mm_X10_breaks [vR v0, vI v1] h Q := Runs.of (by decide +kernel) (Nat.le_of_ble_eq_true rfl) (sg_X10_breaks_0 (b := (0, 0)) k)
set_option maxRecDepth 20000 in
theorem sg_X10_breaks_7 {G : GG} {b : Nat × Nat} {Q : Option VV → Hp → Prop} {v0 v1 : Int} {h : Hp} (k : (h v0 (-1) = 11) ∧ (h (h v0 6) (-1) = 20) ∧ (0 ≤ v1) ∧ (v1 < h (h v0 6) (-2)) ∧ (((h (h v0 6) v1) ≤ 0) → AW G mm_X10_breaks b 28 [(0, vR v0), (1, vI v1), (2, vI 0)] [] h Q) ∧ ((¬ ((h (h v0 6) v1) ≤ 0)) → Runs G mm_X10_tellsOldest [vR v0, vI v1, vI 2, vI 0] h (fun r h' => AW G mm_X10_breaks b 23 [(0, vR v0), (1, vI v1)] (r.toList ++ []) h' Q))) : AW G mm_X10_breaks b 7 [(0, vR v0), (1, vI v1)] [] h Q := by
  refine aw_aload_n 0 dX10_breaks_7 rfl rfl ?_
  obtain ⟨o1, k⟩ := k
  refine aw_getR dX10_breaks_8 fl_X10_28 rfl o1 (x := (h v0 6)) rfl ?_
  refine aw_iload_n 1 dX10_breaks_11 rfl rfl ?_
  obtain ⟨o2, k⟩ := k
  obtain ⟨o3, k⟩ := k
  obtain ⟨o4, k⟩ := k
  refine aw_iald dX10_breaks_12 o2 o3 o4 (x := (h (h v0 6) v1)) rfl ?_
  refine aw_if_le (tgt := 26) dX10_breaks_13 (by decide) (fun hc => ?_) (fun hc => ?_)
  · have k := k.1 hc
    refine aw_iconst dX10_breaks_26 ⟨by decide, by decide⟩ ?_
    refine aw_istore_n dX10_breaks_27 rfl (by decide) ?_
    exact aw_sub [1, 2, 0] rfl k
  · have k := k.2 hc
    refine aw_aload_n 0 dX10_breaks_16 rfl rfl ?_
    refine aw_iload_n 1 dX10_breaks_17 rfl rfl ?_
    refine aw_iconst dX10_breaks_18 ⟨by decide, by decide⟩ ?_
    refine aw_iconst dX10_breaks_19 ⟨by decide, by decide⟩ ?_
    refine aw_callV (M' := mm_X10_tellsOldest) 10 [vI v1, vI 2, vI 0] [] lk_X10_245 ⟨_, rfl, rfl⟩ dX10_breaks_20 rfl (Nat.le_of_ble_eq_true rfl) ⟨by decide, by decide, Nat.zero_le _, Nat.zero_le _⟩ o1 ?_
    exact k
set_option maxRecDepth 20000 in
theorem sg_X10_breaks_28 {G : GG} {b : Nat × Nat} {Q : Option VV → Hp → Prop} {v0 v1 v2 : Int} {h : Hp} (k : (h v0 (-1) = 11) ∧ (h (h v0 9) (-1) = 20) ∧ (0 ≤ v1) ∧ (v1 < h (h v0 9) (-2)) ∧ (((h (h v0 9) v1) ≤ v2) → ∀ h1, h1 = wr h (h v0 9) v1 0 → Q none h1) ∧ ((¬ ((h (h v0 9) v1) ≤ v2)) → (inI (3 * v1)) ∧ (inI ((3 * v1) + v2)) ∧ (h (h v0 10) (-1) = 20) ∧ (0 ≤ ((3 * v1) + v2)) ∧ (((3 * v1) + v2) < h (h v0 10) (-2)) ∧ Runs G mm_X10_tells [vR v0, vI v1, vI 5, vI (-1), vI 2, vI (h (h v0 10) ((3 * v1) + v2))] h (fun r h' => AW G mm_X10_breaks b 56 [(0, vR v0), (1, vI v1), (2, vI v2)] (r.toList ++ []) h' Q))) : AW G mm_X10_breaks b 28 [(0, vR v0), (1, vI v1), (2, vI v2)] [] h Q := by
  refine aw_iload_n 2 dX10_breaks_28 rfl rfl ?_
  refine aw_aload_n 0 dX10_breaks_29 rfl rfl ?_
  obtain ⟨o1, k⟩ := k
  refine aw_getR dX10_breaks_30 fl_X10_37 rfl o1 (x := (h v0 9)) rfl ?_
  refine aw_iload_n 1 dX10_breaks_33 rfl rfl ?_
  obtain ⟨o2, k⟩ := k
  obtain ⟨o3, k⟩ := k
  obtain ⟨o4, k⟩ := k
  refine aw_iald dX10_breaks_34 o2 o3 o4 (x := (h (h v0 9) v1)) rfl ?_
  refine aw_icmp_ge (tgt := 62) dX10_breaks_35 (by decide) (fun hc => ?_) (fun hc => ?_)
  · have k := k.1 hc
    refine aw_aload_n 0 dX10_breaks_62 rfl rfl ?_
    refine aw_getR dX10_breaks_63 fl_X10_37 rfl o1 (x := (h v0 9)) rfl ?_
    refine aw_iload_n 1 dX10_breaks_66 rfl rfl ?_
    refine aw_iconst dX10_breaks_67 ⟨by decide, by decide⟩ ?_
    refine aw_iast dX10_breaks_68 o2 o3 o4 ?_
    refine aw_hp (fun h1 e5 => ?_)
    have k := k h1 e5
    exact aw_vret dX10_breaks_69 rfl k
  · have k := k.2 hc
    refine aw_aload_n 0 dX10_breaks_38 rfl rfl ?_
    refine aw_iload_n 1 dX10_breaks_39 rfl rfl ?_
    refine aw_iconst dX10_breaks_40 ⟨by decide, by decide⟩ ?_
    refine aw_iconst dX10_breaks_41 ⟨by decide, by decide⟩ ?_
    refine aw_iconst dX10_breaks_42 ⟨by decide, by decide⟩ ?_
    refine aw_aload_n 0 dX10_breaks_43 rfl rfl ?_
    refine aw_getR dX10_breaks_44 fl_X10_40 rfl o1 (x := (h v0 10)) rfl ?_
    refine aw_iconst dX10_breaks_47 ⟨by decide, by decide⟩ ?_
    refine aw_iload_n 1 dX10_breaks_48 rfl rfl ?_
    obtain ⟨o6, k⟩ := k
    refine aw_imul dX10_breaks_49 o6 ?_
    refine aw_iload_n 2 dX10_breaks_50 rfl rfl ?_
    obtain ⟨o7, k⟩ := k
    refine aw_iadd dX10_breaks_51 o7 ?_
    obtain ⟨o8, k⟩ := k
    obtain ⟨o9, k⟩ := k
    obtain ⟨o10, k⟩ := k
    refine aw_iald dX10_breaks_52 o8 o9 o10 (x := (h (h v0 10) ((3 * v1) + v2))) rfl ?_
    refine aw_callV (M' := mm_X10_tells) 10 [vI v1, vI 5, vI (-1), vI 2, vI (h (h v0 10) ((3 * v1) + v2))] [] lk_X10_241 ⟨_, rfl, rfl⟩ dX10_breaks_53 rfl (Nat.le_of_ble_eq_true rfl) ⟨by decide, by decide, Nat.zero_le _, Nat.zero_le _⟩ o1 ?_
    exact k
set_option maxRecDepth 20000 in
theorem sg_X10_breaks_23 {G : GG} {b : Nat × Nat} {Q : Option VV → Hp → Prop} {v0 v1 : Int} {h : Hp} (k : AW G mm_X10_breaks b 7 [(0, vR v0), (1, vI v1)] [] h Q) : AW G mm_X10_breaks b 23 [(0, vR v0), (1, vI v1)] [] h Q := by
  refine aw_goto (tgt := 7) dX10_breaks_23 (by decide) ?_
  exact k
set_option maxRecDepth 20000 in
theorem sg_X10_breaks_56 {G : GG} {b : Nat × Nat} {Q : Option VV → Hp → Prop} {v0 v1 v2 : Int} {h : Hp} (k : (inI (v2 + 1)) ∧ AW G mm_X10_breaks b 28 [(0, vR v0), (1, vI v1), (2, vI (v2 + 1))] [] h Q) : AW G mm_X10_breaks b 56 [(0, vR v0), (1, vI v1), (2, vI v2)] [] h Q := by
  obtain ⟨o1, k⟩ := k
  refine aw_iinc 2 dX10_breaks_56 rfl o1 (by decide) ?_
  refine aw_goto (tgt := 28) dX10_breaks_59 (by decide) ?_
  exact aw_sub [1, 2, 0] rfl k
set_option maxRecDepth 20000 in
theorem sg_X10_cell_0 {G : GG} {b : Nat × Nat} {Q : Option VV → Hp → Prop} {v0 v1 v2 : Int} {h : Hp} (k : ((¬ (0 ≤ v1 ∧ v1 ≤ 1)) → Q (some (vI (-1001))) h) ∧ ((0 ≤ v1 ∧ v1 ≤ 1) → ((¬ (0 ≤ v2 ∧ v2 ≤ 11)) → Q (some (vI (-1001))) h) ∧ ((0 ≤ v2 ∧ v2 ≤ 11) → (h v0 (-1) = 11) ∧ (inI (12 * v1)) ∧ (inI ((12 * v1) + v2)) ∧ (h (h v0 0) (-1) = 20) ∧ (0 ≤ ((12 * v1) + v2)) ∧ (((12 * v1) + v2) < h (h v0 0) (-2)) ∧ Q (some (vI (h (h v0 0) ((12 * v1) + v2)))) h))) : AW G mm_X10_cell b 0 [(0, vR v0), (1, vI v1), (2, vI v2)] [] h Q := by
  refine aw_iload_n 1 dX10_cell_0 rfl rfl ?_
  refine aw_callS (M' := mm_X10_isHost) [vI v1] [] lk_X10_194 dX10_cell_1 rfl (Nat.le_of_ble_eq_true rfl) ⟨by decide, by decide, Nat.zero_le _, Nat.zero_le _⟩ ?_
  refine pu_X10_isHost ?_
  refine aw_if_eq (tgt := 28) dX10_cell_4 (by decide) (fun hc => ?_) (fun hc => ?_)
  · have k := k.1 (b2i_0.mp hc)
    refine aw_sipush dX10_cell_28 ⟨by decide, by decide⟩ (by decide) ?_
    exact aw_iret dX10_cell_31 rfl k
  · have k := k.2 (b2i_n.mp hc)
    refine aw_iload_n 2 dX10_cell_7 rfl rfl ?_
    refine aw_callS (M' := mm_X10_isCell) [vI v2] [] lk_X10_197 dX10_cell_8 rfl (Nat.le_of_ble_eq_true rfl) ⟨by decide, by decide, Nat.zero_le _, Nat.zero_le _⟩ ?_
    refine pu_X10_isCell ?_
    refine aw_if_eq (tgt := 28) dX10_cell_11 (by decide) (fun hc => ?_) (fun hc => ?_)
    · have k := k.1 (b2i_0.mp hc)
      refine aw_sipush dX10_cell_28 ⟨by decide, by decide⟩ (by decide) ?_
      exact aw_iret dX10_cell_31 rfl k
    · have k := k.2 (b2i_n.mp hc)
      refine aw_aload_n 0 dX10_cell_14 rfl rfl ?_
      obtain ⟨o1, k⟩ := k
      refine aw_getR dX10_cell_15 fl_X10_7 rfl o1 (x := (h v0 0)) rfl ?_
      refine aw_bipush dX10_cell_18 ⟨by decide, by decide⟩ (by decide) ?_
      refine aw_iload_n 1 dX10_cell_20 rfl rfl ?_
      obtain ⟨o2, k⟩ := k
      refine aw_imul dX10_cell_21 o2 ?_
      refine aw_iload_n 2 dX10_cell_22 rfl rfl ?_
      obtain ⟨o3, k⟩ := k
      refine aw_iadd dX10_cell_23 o3 ?_
      obtain ⟨o4, k⟩ := k
      obtain ⟨o5, k⟩ := k
      obtain ⟨o6, k⟩ := k
      refine aw_iald dX10_cell_24 o4 o5 o6 (x := (h (h v0 0) ((12 * v1) + v2))) rfl ?_
      refine aw_goto (tgt := 31) dX10_cell_25 (by decide) ?_
      exact aw_iret dX10_cell_31 rfl k
theorem rn_X10_cell {G : GG} {Q : Option VV → Hp → Prop} {v0 v1 v2 : Int} {h : Hp} (k : ((¬ (0 ≤ v1 ∧ v1 ≤ 1)) → Q (some (vI (-1001))) h) ∧ ((0 ≤ v1 ∧ v1 ≤ 1) → ((¬ (0 ≤ v2 ∧ v2 ≤ 11)) → Q (some (vI (-1001))) h) ∧ ((0 ≤ v2 ∧ v2 ≤ 11) → (h v0 (-1) = 11) ∧ (inI (12 * v1)) ∧ (inI ((12 * v1) + v2)) ∧ (h (h v0 0) (-1) = 20) ∧ (0 ≤ ((12 * v1) + v2)) ∧ (((12 * v1) + v2) < h (h v0 0) (-2)) ∧ Q (some (vI (h (h v0 0) ((12 * v1) + v2)))) h))) : Runs G mm_X10_cell [vR v0, vI v1, vI v2] h Q := Runs.of (by decide +kernel) (Nat.le_of_ble_eq_true rfl) (sg_X10_cell_0 (b := (0, 0)) k)
