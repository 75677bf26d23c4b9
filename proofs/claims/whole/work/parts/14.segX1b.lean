/-! printed by writeseg.py: segments of methods -/
set_option maxRecDepth 20000 in
theorem sg_X1_postWork_0 {G : GG} {b : Nat × Nat} {Q : Option VV → Hp → Prop} {v0 v1 v2 v3 v4 : Int} {h : Hp} (k : (h v0 (-1) = 2) ∧ (((h v0 6) = 1) → ((4 ≤ (h v0 8)) → Q (some (vI (-1004))) h) ∧ ((¬ (4 ≤ (h v0 8))) → ((¬ (v1 = 2 ∨ v1 = 3 ∨ v1 = 4)) → (h (h v0 3) (-1) = 38) ∧ (0 ≤ (h v0 8)) ∧ ((h v0 8) < h (h v0 3) (-2)) ∧ (inI ((h v0 8) + 1)) ∧ ∀ h1, h1 = wr h v0 8 ((h v0 8) + 1) → (h (h (h v0 3) (h v0 8)) (-1) = 9) ∧ ∀ h2, h2 = wr h1 (h (h v0 3) (h v0 8)) 0 (h v0 7) → (inI ((h v0 7) + 1)) ∧ ∀ h3, h3 = wr h2 v0 7 ((h v0 7) + 1) → ∀ h4, h4 = wr h3 (h (h v0 3) (h v0 8)) 1 v1 → ∀ h5, h5 = wr h4 (h (h v0 3) (h v0 8)) 2 (h v0 14) → ∀ h6, h6 = wr h5 (h (h v0 3) (h v0 8)) 3 (h v0 15) → ∀ h7, h7 = wr h6 (h (h v0 3) (h v0 8)) 4 v2 → ∀ h8, h8 = wr h7 (h (h v0 3) (h v0 8)) 5 v3 → ∀ h9, h9 = wr h8 (h (h v0 3) (h v0 8)) 6 v4 → Runs G mm_X1_request [vR v0, vR (h (h v0 3) (h v0 8))] h9 (fun r h' => AW G mm_X1_postWork b 128 [(5, vR (h (h v0 3) (h v0 8)))] (r.toList ++ []) h' Q)) ∧ ((v1 = 2 ∨ v1 = 3 ∨ v1 = 4) → Runs G mm_X1_openFetches [vR v0] h (fun r h' => AW G mm_X1_postWork b 31 [(0, vR v0), (1, vI v1), (2, vI v2), (3, vI v3), (4, vI v4)] (r.toList ++ []) h' Q)))) ∧ ((¬ ((h v0 6) = 1)) → Q (some (vI (-1003))) h)) : AW G mm_X1_postWork b 0 [(0, vR v0), (1, vI v1), (2, vI v2), (3, vI v3), (4, vI v4)] [] h Q := by
  refine aw_aload_n 0 dX1_postWork_0 rfl rfl ?_
  obtain ⟨o1, k⟩ := k
  refine aw_getI dX1_postWork_1 fl_X1_28 rfl o1 (x := (h v0 6)) rfl ?_
  refine aw_iconst dX1_postWork_4 ⟨by decide, by decide⟩ ?_
  refine aw_icmp_eq (tgt := 12) dX1_postWork_5 (by decide) (fun hc => ?_) (fun hc => ?_)
  · have k := k.1 hc
    refine aw_aload_n 0 dX1_postWork_12 rfl rfl ?_
    refine aw_getI dX1_postWork_13 fl_X1_35 rfl o1 (x := (h v0 8)) rfl ?_
    refine aw_iconst dX1_postWork_16 ⟨by decide, by decide⟩ ?_
    refine aw_icmp_ge (tgt := 35) dX1_postWork_17 (by decide) (fun hc => ?_) (fun hc => ?_)
    · have k := k.1 hc
      refine aw_sipush dX1_postWork_35 ⟨by decide, by decide⟩ (by decide) ?_
      exact aw_iret dX1_postWork_38 rfl k
    · have k := k.2 hc
      refine aw_iload_n 1 dX1_postWork_20 rfl rfl ?_
      refine aw_callSN (M' := mm_X9_isFetch) [vI v1] [] lk_X1_83 dX1_postWork_21 rfl (Nat.le_of_ble_eq_true rfl) ⟨by decide, by decide, Nat.zero_le _, Nat.zero_le _⟩ ?_
      refine pu_X9_isFetch ?_
      refine aw_if_eq (tgt := 39) dX1_postWork_24 (by decide) (fun hc => ?_) (fun hc => ?_)
      · have k := k.1 (b2i_0.mp hc)
        refine aw_aload_n 0 dX1_postWork_39 rfl rfl ?_
        refine aw_getR dX1_postWork_40 fl_X1_11 rfl o1 (x := (h v0 3)) rfl ?_
        refine aw_aload_n 0 dX1_postWork_43 rfl rfl ?_
        refine aw_getI dX1_postWork_44 fl_X1_35 rfl o1 (x := (h v0 8)) rfl ?_
        obtain ⟨o2, k⟩ := k
        obtain ⟨o3, k⟩ := k
        obtain ⟨o4, k⟩ := k
        refine aw_aald 7 8 aq_8 dX1_postWork_47 o2 o3 o4 (x := (h (h v0 3) (h v0 8))) rfl ?_
        refine aw_astore dX1_postWork_48 (by decide) ?_
        refine aw_aload_n 1 dX1_postWork_50 rfl rfl ?_
        refine aw_dup dX1_postWork_51 rfl ?_
        refine aw_getI dX1_postWork_52 fl_X1_35 rfl o1 (x := (h v0 8)) rfl ?_
        refine aw_iconst dX1_postWork_55 ⟨by decide, by decide⟩ ?_
        obtain ⟨o5, k⟩ := k
        refine aw_iadd dX1_postWork_56 o5 ?_
        refine aw_putI dX1_postWork_57 fl_X1_35 (fun q hq hf => by cases hq; cases hf) rfl rfl o1 ?_
        refine aw_hp (fun h1 e6 => ?_)
        have k := k h1 e6
        refine aw_aload 0 dX1_postWork_60 rfl ?_
        refine aw_aload_n 1 dX1_postWork_62 rfl rfl ?_
        have q7 := sh_w e6 (by decide) o1
        refine aw_getI dX1_postWork_63 fl_X1_32 rfl q7 (x := (h v0 7)) (rd_k e6 7 (by decide)) ?_
        obtain ⟨o8, k⟩ := k
        have q9 := sh_w e6 (by decide) o8
        refine aw_putI dX1_postWork_66 fl_X1_91 (fun q hq hf => by cases hq; cases hf) rfl rfl q9 ?_
        refine aw_hp (fun h2 e10 => ?_)
        have k := k h2 e10
        refine aw_aload_n 1 dX1_postWork_69 rfl rfl ?_
        refine aw_dup dX1_postWork_70 rfl ?_
        have q11 := sh_w e10 (by decide) q7
        refine aw_getI dX1_postWork_71 fl_X1_32 rfl q11 (x := (h v0 7)) ((rd_a e10 v0 7 (ne_sh q9 q7 (by decide))).trans (rd_k e6 7 (by decide))) ?_
        refine aw_iconst dX1_postWork_74 ⟨by decide, by decide⟩ ?_
        obtain ⟨o12, k⟩ := k
        refine aw_iadd dX1_postWork_75 o12 ?_
        refine aw_putI dX1_postWork_76 fl_X1_32 (fun q hq hf => by cases hq; cases hf) rfl rfl q11 ?_
        refine aw_hp (fun h3 e13 => ?_)
        have k := k h3 e13
        refine aw_aload 0 dX1_postWork_79 rfl ?_
        refine aw_iload_n 2 dX1_postWork_81 rfl rfl ?_
        have q14 := sh_w e10 (by decide) q9
        have q15 := sh_w e13 (by decide) q14
        refine aw_putI dX1_postWork_82 fl_X1_94 (fun q hq hf => by cases hq; cases hf) rfl rfl q15 ?_
        refine aw_hp (fun h4 e16 => ?_)
        have k := k h4 e16
        refine aw_aload 0 dX1_postWork_85 rfl ?_
        refine aw_aload_n 1 dX1_postWork_87 rfl rfl ?_
        have q17 := sh_w e13 (by decide) q11
        have q18 := sh_w e16 (by decide) q17
        refine aw_getI dX1_postWork_88 fl_X1_54 rfl q18 (x := (h v0 14)) ((rd_a e16 v0 14 (ne_sh q15 q17 (by decide))).trans ((rd_k e13 14 (by decide)).trans ((rd_a e10 v0 14 (ne_sh q9 q7 (by decide))).trans (rd_k e6 14 (by decide))))) ?_
        have q19 := sh_w e16 (by decide) q15
        refine aw_putI dX1_postWork_91 fl_X1_97 (fun q hq hf => by cases hq; cases hf) rfl rfl q19 ?_
        refine aw_hp (fun h5 e20 => ?_)
        have k := k h5 e20
        refine aw_aload 0 dX1_postWork_94 rfl ?_
        refine aw_aload_n 1 dX1_postWork_96 rfl rfl ?_
        have q21 := sh_w e20 (by decide) q18
        refine aw_getI dX1_postWork_97 fl_X1_57 rfl q21 (x := (h v0 15)) ((rd_a e20 v0 15 (ne_sh q19 q18 (by decide))).trans ((rd_a e16 v0 15 (ne_sh q15 q17 (by decide))).trans ((rd_k e13 15 (by decide)).trans ((rd_a e10 v0 15 (ne_sh q9 q7 (by decide))).trans (rd_k e6 15 (by decide)))))) ?_
        have q22 := sh_w e20 (by decide) q19
        refine aw_putI dX1_postWork_100 fl_X1_100 (fun q hq hf => by cases hq; cases hf) rfl rfl q22 ?_
        refine aw_hp (fun h6 e23 => ?_)
        have k := k h6 e23
        refine aw_aload 0 dX1_postWork_103 rfl ?_
        refine aw_iload_n 3 dX1_postWork_105 rfl rfl ?_
        have q24 := sh_w e23 (by decide) q22
        refine aw_putI dX1_postWork_106 fl_X1_103 (fun q hq hf => by cases hq; cases hf) rfl rfl q24 ?_
        refine aw_hp (fun h7 e25 => ?_)
        have k := k h7 e25
        refine aw_aload 0 dX1_postWork_109 rfl ?_
        refine aw_iload_n 4 dX1_postWork_111 rfl rfl ?_
        have q26 := sh_w e25 (by decide) q24
        refine aw_putI dX1_postWork_112 fl_X1_106 (fun q hq hf => by cases hq; cases hf) rfl rfl q26 ?_
        refine aw_hp (fun h8 e27 => ?_)
        have k := k h8 e27
        refine aw_aload 0 dX1_postWork_115 rfl ?_
        refine aw_iload 5 dX1_postWork_117 rfl ?_
        have q28 := sh_w e27 (by decide) q26
        refine aw_putI dX1_postWork_119 fl_X1_109 (fun q hq hf => by cases hq; cases hf) rfl rfl q28 ?_
        refine aw_hp (fun h9 e29 => ?_)
        have k := k h9 e29
        refine aw_aload_n 1 dX1_postWork_122 rfl rfl ?_
        refine aw_aload 0 dX1_postWork_123 rfl ?_
        have q30 := sh_w e23 (by decide) q21
        have q31 := sh_w e25 (by decide) q30
        have q32 := sh_w e27 (by decide) q31
        have q33 := sh_w e29 (by decide) q32
        refine aw_callV (M' := mm_X1_request) 1 [vR (h (h v0 3) (h v0 8))] [] lk_X1_112 ⟨_, rfl, rfl⟩ dX1_postWork_125 rfl (Nat.le_of_ble_eq_true rfl) ⟨by decide, by decide, Nat.zero_le _, Nat.zero_le _⟩ q33 ?_
        exact k.mono (fun _ _ z => aw_sub [0] rfl z)
      · have k := k.2 (b2i_n.mp hc)
        refine aw_aload_n 0 dX1_postWork_27 rfl rfl ?_
        refine aw_callV (M' := mm_X1_openFetches) 1 [] [] lk_X1_87 ⟨_, rfl, rfl⟩ dX1_postWork_28 rfl (Nat.le_of_ble_eq_true rfl) ⟨by decide, by decide, Nat.zero_le _, Nat.zero_le _⟩ o1 ?_
        exact k
  · have k := k.2 hc
    refine aw_sipush dX1_postWork_8 ⟨by decide, by decide⟩ (by decide) ?_
    exact aw_iret dX1_postWork_11 rfl k
theorem rn_X1_postWork {G : GG} {Q : Option VV → Hp → Prop} {v0 v1 v2 v3 v4 : Int} {h : Hp} (k : (h v0 (-1) = 2) ∧ (((h v0 6) = 1) → ((4 ≤ (h v0 8)) → Q (some (vI (-1004))) h) ∧ ((¬ (4 ≤ (h v0 8))) → ((¬ (v1 = 2 ∨ v1 = 3 ∨ v1 = 4)) → (h (h v0 3) (-1) = 38) ∧ (0 ≤ (h v0 8)) ∧ ((h v0 8) < h (h v0 3) (-2)) ∧ (inI ((h v0 8) + 1)) ∧ ∀ h1, h1 = wr h v0 8 ((h v0 8) + 1) → (h (h (h v0 3) (h v0 8)) (-1) = 9) ∧ ∀ h2, h2 = wr h1 (h (h v0 3) (h v0 8)) 0 (h v0 7) → (inI ((h v0 7) + 1)) ∧ ∀ h3, h3 = wr h2 v0 7 ((h v0 7) + 1) → ∀ h4, h4 = wr h3 (h (h v0 3) (h v0 8)) 1 v1 → ∀ h5, h5 = wr h4 (h (h v0 3) (h v0 8)) 2 (h v0 14) → ∀ h6, h6 = wr h5 (h (h v0 3) (h v0 8)) 3 (h v0 15) → ∀ h7, h7 = wr h6 (h (h v0 3) (h v0 8)) 4 v2 → ∀ h8, h8 = wr h7 (h (h v0 3) (h v0 8)) 5 v3 → ∀ h9, h9 = wr h8 (h (h v0 3) (h v0 8)) 6 v4 → Runs G mm_X1_request [vR v0, vR (h (h v0 3) (h v0 8))] h9 (fun r h' => AW G mm_X1_postWork (0, 0) 128 [(5, vR (h (h v0 3) (h v0 8)))] (r.toList ++ []) h' Q)) ∧ ((v1 = 2 ∨ v1 = 3 ∨ v1 = 4) → Runs G mm_X1_openFetches [vR v0] h (fun r h' => AW G mm_X1_postWork (0, 0) 31 [(0, vR v0), (1, vI v1), (2, vI v2), (3, vI v3), (4, vI v4)] (r.toList ++ []) h' Q)))) ∧ ((¬ ((h v0 6) = 1)) → Q (some (vI (-1003))) h)) : Runs G mm_X1_postWork [vR v0, vI v1, vI v2, vI v3, vI v4] h Q := Runs.of (by decide +kernel) (Nat.le_of_ble_eq_true rfl) (sg_X1_postWork_0 (b := (0, 0)) k)
set_option maxRecDepth 20000 in
theorem sg_X1_postWork_128 {G : GG} {b : Nat × Nat} {Q : Option VV → Hp → Prop} {v5 : Int} {h : Hp} (k : (h v5 (-1) = 9) ∧ Q (some (vI (h v5 0))) h) : AW G mm_X1_postWork b 128 [(5, vR v5)] [] h Q := by
  refine aw_aload 0 dX1_postWork_128 rfl ?_
  obtain ⟨o1, k⟩ := k
  refine aw_getI dX1_postWork_130 fl_X1_91 rfl o1 (x := (h v5 0)) rfl ?_
  exact aw_iret dX1_postWork_133 rfl k
set_option maxRecDepth 20000 in
theorem sg_X1_postWork_31 {G : GG} {b : Nat × Nat} {Q : Option VV → Hp → Prop} {v0 v1 v2 v3 v4 s0 : Int} {h : Hp} (k : ((s0 < 2) → (h v0 (-1) = 2) ∧ (h (h v0 3) (-1) = 38) ∧ (0 ≤ (h v0 8)) ∧ ((h v0 8) < h (h v0 3) (-2)) ∧ (inI ((h v0 8) + 1)) ∧ ∀ h1, h1 = wr h v0 8 ((h v0 8) + 1) → (h (h (h v0 3) (h v0 8)) (-1) = 9) ∧ ∀ h2, h2 = wr h1 (h (h v0 3) (h v0 8)) 0 (h v0 7) → (inI ((h v0 7) + 1)) ∧ ∀ h3, h3 = wr h2 v0 7 ((h v0 7) + 1) → ∀ h4, h4 = wr h3 (h (h v0 3) (h v0 8)) 1 v1 → ∀ h5, h5 = wr h4 (h (h v0 3) (h v0 8)) 2 (h v0 14) → ∀ h6, h6 = wr h5 (h (h v0 3) (h v0 8)) 3 (h v0 15) → ∀ h7, h7 = wr h6 (h (h v0 3) (h v0 8)) 4 v2 → ∀ h8, h8 = wr h7 (h (h v0 3) (h v0 8)) 5 v3 → ∀ h9, h9 = wr h8 (h (h v0 3) (h v0 8)) 6 v4 → Runs G mm_X1_request [vR v0, vR (h (h v0 3) (h v0 8))] h9 (fun r h' => AW G mm_X1_postWork b 128 [(5, vR (h (h v0 3) (h v0 8)))] (r.toList ++ []) h' Q)) ∧ ((¬ (s0 < 2)) → Q (some (vI (-1004))) h)) : AW G mm_X1_postWork b 31 [(0, vR v0), (1, vI v1), (2, vI v2), (3, vI v3), (4, vI v4)] [vI s0] h Q := by
  refine aw_iconst dX1_postWork_31 ⟨by decide, by decide⟩ ?_
  refine aw_icmp_lt (tgt := 39) dX1_postWork_32 (by decide) (fun hc => ?_) (fun hc => ?_)
  · have k := k.1 hc
    refine aw_aload_n 0 dX1_postWork_39 rfl rfl ?_
    obtain ⟨o1, k⟩ := k
    refine aw_getR dX1_postWork_40 fl_X1_11 rfl o1 (x := (h v0 3)) rfl ?_
    refine aw_aload_n 0 dX1_postWork_43 rfl rfl ?_
    refine aw_getI dX1_postWork_44 fl_X1_35 rfl o1 (x := (h v0 8)) rfl ?_
    obtain ⟨o2, k⟩ := k
    obtain ⟨o3, k⟩ := k
    obtain ⟨o4, k⟩ := k
    refine aw_aald 7 8 aq_8 dX1_postWork_47 o2 o3 o4 (x := (h (h v0 3) (h v0 8))) rfl ?_
    refine aw_astore dX1_postWork_48 (by decide) ?_
    refine aw_aload_n 1 dX1_postWork_50 rfl rfl ?_
    refine aw_dup dX1_postWork_51 rfl ?_
    refine aw_getI dX1_postWork_52 fl_X1_35 rfl o1 (x := (h v0 8)) rfl ?_
    refine aw_iconst dX1_postWork_55 ⟨by decide, by decide⟩ ?_
    obtain ⟨o5, k⟩ := k
    refine aw_iadd dX1_postWork_56 o5 ?_
    refine aw_putI dX1_postWork_57 fl_X1_35 (fun q hq hf => by cases hq; cases hf) rfl rfl o1 ?_
    refine aw_hp (fun h1 e6 => ?_)
    have k := k h1 e6
    refine aw_aload 0 dX1_postWork_60 rfl ?_
    refine aw_aload_n 1 dX1_postWork_62 rfl rfl ?_
    have q7 := sh_w e6 (by decide) o1
    refine aw_getI dX1_postWork_63 fl_X1_32 rfl q7 (x := (h v0 7)) (rd_k e6 7 (by decide)) ?_
    obtain ⟨o8, k⟩ := k
    have q9 := sh_w e6 (by decide) o8
    refine aw_putI dX1_postWork_66 fl_X1_91 (fun q hq hf => by cases hq; cases hf) rfl rfl q9 ?_
    refine aw_hp (fun h2 e10 => ?_)
    have k := k h2 e10
    refine aw_aload_n 1 dX1_postWork_69 rfl rfl ?_
    refine aw_dup dX1_postWork_70 rfl ?_
    have q11 := sh_w e10 (by decide) q7
    refine aw_getI dX1_postWork_71 fl_X1_32 rfl q11 (x := (h v0 7)) ((rd_a e10 v0 7 (ne_sh q9 q7 (by decide))).trans (rd_k e6 7 (by decide))) ?_
    refine aw_iconst dX1_postWork_74 ⟨by decide, by decide⟩ ?_
    obtain ⟨o12, k⟩ := k
    refine aw_iadd dX1_postWork_75 o12 ?_
    refine aw_putI dX1_postWork_76 fl_X1_32 (fun q hq hf => by cases hq; cases hf) rfl rfl q11 ?_
    refine aw_hp (fun h3 e13 => ?_)
    have k := k h3 e13
    refine aw_aload 0 dX1_postWork_79 rfl ?_
    refine aw_iload_n 2 dX1_postWork_81 rfl rfl ?_
    have q14 := sh_w e10 (by decide) q9
    have q15 := sh_w e13 (by decide) q14
    refine aw_putI dX1_postWork_82 fl_X1_94 (fun q hq hf => by cases hq; cases hf) rfl rfl q15 ?_
    refine aw_hp (fun h4 e16 => ?_)
    have k := k h4 e16
    refine aw_aload 0 dX1_postWork_85 rfl ?_
    refine aw_aload_n 1 dX1_postWork_87 rfl rfl ?_
    have q17 := sh_w e13 (by decide) q11
    have q18 := sh_w e16 (by decide) q17
    refine aw_getI dX1_postWork_88 fl_X1_54 rfl q18 (x := (h v0 14)) ((rd_a e16 v0 14 (ne_sh q15 q17 (by decide))).trans ((rd_k e13 14 (by decide)).trans ((rd_a e10 v0 14 (ne_sh q9 q7 (by decide))).trans (rd_k e6 14 (by decide))))) ?_
    have q19 := sh_w e16 (by decide) q15
    refine aw_putI dX1_postWork_91 fl_X1_97 (fun q hq hf => by cases hq; cases hf) rfl rfl q19 ?_
    refine aw_hp (fun h5 e20 => ?_)
    have k := k h5 e20
    refine aw_aload 0 dX1_postWork_94 rfl ?_
    refine aw_aload_n 1 dX1_postWork_96 rfl rfl ?_
    have q21 := sh_w e20 (by decide) q18
    refine aw_getI dX1_postWork_97 fl_X1_57 rfl q21 (x := (h v0 15)) ((rd_a e20 v0 15 (ne_sh q19 q18 (by decide))).trans ((rd_a e16 v0 15 (ne_sh q15 q17 (by decide))).trans ((rd_k e13 15 (by decide)).trans ((rd_a e10 v0 15 (ne_sh q9 q7 (by decide))).trans (rd_k e6 15 (by decide)))))) ?_
    have q22 := sh_w e20 (by decide) q19
    refine aw_putI dX1_postWork_100 fl_X1_100 (fun q hq hf => by cases hq; cases hf) rfl rfl q22 ?_
    refine aw_hp (fun h6 e23 => ?_)
    have k := k h6 e23
    refine aw_aload 0 dX1_postWork_103 rfl ?_
    refine aw_iload_n 3 dX1_postWork_105 rfl rfl ?_
    have q24 := sh_w e23 (by decide) q22
    refine aw_putI dX1_postWork_106 fl_X1_103 (fun q hq hf => by cases hq; cases hf) rfl rfl q24 ?_
    refine aw_hp (fun h7 e25 => ?_)
    have k := k h7 e25
    refine aw_aload 0 dX1_postWork_109 rfl ?_
    refine aw_iload_n 4 dX1_postWork_111 rfl rfl ?_
    have q26 := sh_w e25 (by decide) q24
    refine aw_putI dX1_postWork_112 fl_X1_106 (fun q hq hf => by cases hq; cases hf) rfl rfl q26 ?_
    refine aw_hp (fun h8 e27 => ?_)
    have k := k h8 e27
    refine aw_aload 0 dX1_postWork_115 rfl ?_
    refine aw_iload 5 dX1_postWork_117 rfl ?_
    have q28 := sh_w e27 (by decide) q26
    refine aw_putI dX1_postWork_119 fl_X1_109 (fun q hq hf => by cases hq; cases hf) rfl rfl q28 ?_
    refine aw_hp (fun h9 e29 => ?_)
    have k := k h9 e29
    refine aw_aload_n 1 dX1_postWork_122 rfl rfl ?_
    refine aw_aload 0 dX1_postWork_123 rfl ?_
    have q30 := sh_w e23 (by decide) q21
    have q31 := sh_w e25 (by decide) q30
    have q32 := sh_w e27 (by decide) q31
    have q33 := sh_w e29 (by decide) q32
    refine aw_callV (M' := mm_X1_request) 1 [vR (h (h v0 3) (h v0 8))] [] lk_X1_112 ⟨_, rfl, rfl⟩ dX1_postWork_125 rfl (Nat.le_of_ble_eq_true rfl) ⟨by decide, by decide, Nat.zero_le _, Nat.zero_le _⟩ q33 ?_
    exact k.mono (fun _ _ z => aw_sub [0] rfl z)
  · have k := k.2 hc
    refine aw_sipush dX1_postWork_35 ⟨by decide, by decide⟩ (by decide) ?_
    exact aw_iret dX1_postWork_38 rfl k
set_option maxRecDepth 20000 in
theorem sg_X1_reach_0 {G : GG} {b : Nat × Nat} {Q : Option VV → Hp → Prop} {v0 v1 : Int} {h : Hp} (k : (h v0 (-1) = 2) ∧ Runs G mm_X1_reasonAgainst [vR v0, vR v1] h (fun r h' => AW G mm_X1_reach b 5 [(0, vR v0), (1, vR v1)] (r.toList ++ []) h' Q)) : AW G mm_X1_reach b 0 [(0, vR v0), (1, vR v1)] [] h Q := by
  refine aw_aload_n 0 dX1_reach_0 rfl rfl ?_
  refine aw_aload_n 1 dX1_reach_1 rfl rfl ?_
  obtain ⟨o1, k⟩ := k
  refine aw_callV (M' := mm_X1_reasonAgainst) 1 [vR v1] [] lk_X1_181 ⟨_, rfl, rfl⟩ dX1_reach_2 rfl (Nat.le_of_ble_eq_true rfl) ⟨by decide, by decide, Nat.zero_le _, Nat.zero_le _⟩ o1 ?_
  exact k
theorem rn_X1_reach {G : GG} {Q : Option VV → Hp → Prop} {v0 v1 : Int} {h : Hp} (k : (h v0 (-1) = 2) ∧ Runs G mm_X1_reasonAgainst [vR v0, vR v1] h (fun r h' => AW G mm_X1_reach (7, 42) 5 [(0, vR v0), (1, vR v1)] (r.toList ++ []) h' Q)) : Runs G mm_X1_reach [vR v0, vR v1] h Q := Runs.of (by decide +kernel) (Nat.le_of_ble_eq_true rfl) (sg_X1_reach_0 (b := (7, 42)) k)
set_option maxRecDepth 20000 in
theorem sg_X1_reach_5 {G : GG} {b : Nat × Nat} {Q : Option VV → Hp → Prop} {v0 v1 s0 : Int} {h : Hp} (k : ((s0 = 0) → (h v0 (-1) = 2) ∧ (h (h v0 1) (-1) = 3) ∧ (h v1 (-1) = 6) ∧ (h (h (h v0 1) 1) (-1) = 33) ∧ (0 ≤ (h v1 6)) ∧ ((h v1 6) < h (h (h v0 1) 1) (-2)) ∧ (h (h (h (h v0 1) 1) (h v1 6)) (-1) = 4) ∧ (inI ((h (h (h (h v0 1) 1) (h v1 6)) 1) + (h v1 7))) ∧ (h (h (h v0 1) 0) (-1) = 20) ∧ (0 ≤ ((h (h (h (h v0 1) 1) (h v1 6)) 1) + (h v1 7))) ∧ (((h (h (h (h v0 1) 1) (h v1 6)) 1) + (h v1 7)) < h (h (h v0 1) 0) (-2)) ∧ ((¬ (h v1 5) = 2) → ((¬ (h v1 5) = 1) → ((¬ (h v1 5) = 3) → ((¬ (h (h (h v0 1) 0) ((h (h (h (h v0 1) 1) (h v1 6)) 1) + (h v1 7))) = (h v1 8)) → (h (h v0 5) (-1) = 1) ∧ Runs G mm_X0_remember [vR (h v0 5), vI (h v1 3), vI (h (h (h v0 1) 0) ((h (h (h (h v0 1) 1) (h v1 6)) 1) + (h v1 7)))] h (fun r h' => AW G mm_X1_reach b 158 [(0, vR v0), (4, vI (h (h (h v0 1) 0) ((h (h (h (h v0 1) 1) (h v1 6)) 1) + (h v1 7))))] (r.toList ++ []) h' Q)) ∧ (((h (h (h v0 1) 0) ((h (h (h (h v0 1) 1) (h v1 6)) 1) + (h v1 7))) = (h v1 8)) → ∀ h1, h1 = wr h (h (h v0 1) 0) ((h (h (h (h v0 1) 1) (h v1 6)) 1) + (h v1 7)) (h v1 9) → (h (h v0 5) (-1) = 1) ∧ Runs G mm_X0_remember [vR (h v0 5), vI (h v1 3), vI (h (h (h v0 1) 0) ((h (h (h (h v0 1) 1) (h v1 6)) 1) + (h v1 7)))] h1 (fun r h' => AW G mm_X1_reach b 158 [(0, vR v0), (4, vI (h (h (h v0 1) 0) ((h (h (h (h v0 1) 1) (h v1 6)) 1) + (h v1 7))))] (r.toList ++ []) h' Q))) ∧ (((h v1 5) = 3) → (inI ((h (h (h v0 1) 0) ((h (h (h (h v0 1) 1) (h v1 6)) 1) + (h v1 7))) + (h v1 8))) ∧ (0 ≤ ((h (h (h v0 1) 0) ((h (h (h (h v0 1) 1) (h v1 6)) 1) + (h v1 7))) + (h v1 8))) ∧ ∀ h1, h1 = wr h (h (h v0 1) 0) ((h (h (h (h v0 1) 1) (h v1 6)) 1) + (h v1 7)) (((h (h (h v0 1) 0) ((h (h (h (h v0 1) 1) (h v1 6)) 1) + (h v1 7))) + (h v1 8)) % 10000) → (h (h v0 5) (-1) = 1) ∧ Runs G mm_X0_remember [vR (h v0 5), vI (h v1 3), vI (h (h (h v0 1) 0) ((h (h (h (h v0 1) 1) (h v1 6)) 1) + (h v1 7)))] h1 (fun r h' => AW G mm_X1_reach b 158 [(0, vR v0), (4, vI (h (h (h v0 1) 0) ((h (h (h (h v0 1) 1) (h v1 6)) 1) + (h v1 7))))] (r.toList ++ []) h' Q))) ∧ (((h v1 5) = 1) → ∀ h1, h1 = wr h (h (h v0 1) 0) ((h (h (h (h v0 1) 1) (h v1 6)) 1) + (h v1 7)) (h v1 8) → Q (some (vI 0)) h1)) ∧ (((h v1 5) = 2) → Q (some (vI (h (h (h v0 1) 0) ((h (h (h (h v0 1) 1) (h v1 6)) 1) + (h v1 7))))) h)) ∧ ((¬ (s0 = 0)) → (h v1 (-1) = 6) ∧ (h v0 (-1) = 2) ∧ Runs G mm_X1_answer [vR v0, vI 4, vI (h v1 3), vI s0] h (fun r h' => AW G mm_X1_reach b 20 [(0, vR v0)] (r.toList ++ []) h' Q))) : AW G mm_X1_reach b 5 [(0, vR v0), (1, vR v1)] [vI s0] h Q := by
  refine aw_istore_n dX1_reach_5 rfl (by decide) ?_
  refine aw_iload_n 0 dX1_reach_6 rfl rfl ?_
  refine aw_if_eq (tgt := 26) dX1_reach_7 (by decide) (fun hc => ?_) (fun hc => ?_)
  · have k := k.1 hc
    refine aw_aload_n 1 dX1_reach_26 rfl rfl ?_
    obtain ⟨o1, k⟩ := k
    refine aw_getR dX1_reach_27 fl_X1_63 rfl o1 (x := (h v0 1)) rfl ?_
    obtain ⟨o2, k⟩ := k
    refine aw_getR dX1_reach_30 fl_X1_187 rfl o2 (x := (h (h v0 1) 1)) rfl ?_
    refine aw_aload_n 2 dX1_reach_33 rfl rfl ?_
    obtain ⟨o3, k⟩ := k
    refine aw_getI dX1_reach_34 fl_X1_191 rfl o3 (x := (h v1 6)) rfl ?_
    obtain ⟨o4, k⟩ := k
    obtain ⟨o5, k⟩ := k
    obtain ⟨o6, k⟩ := k
    refine aw_aald 5 3 aq_3 dX1_reach_37 o4 o5 o6 (x := (h (h (h v0 1) 1) (h v1 6))) rfl ?_
    obtain ⟨o7, k⟩ := k
    refine aw_getI dX1_reach_38 fl_X1_192 rfl o7 (x := (h (h (h (h v0 1) 1) (h v1 6)) 1)) rfl ?_
    refine aw_aload_n 2 dX1_reach_41 rfl rfl ?_
    refine aw_getI dX1_reach_42 fl_X1_197 rfl o3 (x := (h v1 7)) rfl ?_
    obtain ⟨o8, k⟩ := k
    refine aw_iadd dX1_reach_45 o8 ?_
    refine aw_istore_n dX1_reach_46 rfl (by decide) ?_
    refine aw_aload_n 2 dX1_reach_47 rfl rfl ?_
    refine aw_getR dX1_reach_48 fl_X1_63 rfl o1 (x := (h v0 1)) rfl ?_
    refine aw_getR dX1_reach_51 fl_X1_166 rfl o2 (x := (h (h v0 1) 0)) rfl ?_
    refine aw_iload_n 0 dX1_reach_54 rfl rfl ?_
    obtain ⟨o9, k⟩ := k
    obtain ⟨o10, k⟩ := k
    obtain ⟨o11, k⟩ := k
    refine aw_iald dX1_reach_55 o9 o10 o11 (x := (h (h (h v0 1) 0) ((h (h (h (h v0 1) 1) (h v1 6)) 1) + (h v1 7)))) rfl ?_
    refine aw_istore dX1_reach_56 (by decide) ?_
    refine aw_aload_n 4 dX1_reach_58 rfl rfl ?_
    refine aw_getI dX1_reach_59 fl_X1_155 rfl o3 (x := (h v1 5)) rfl ?_
    refine aw_iconst dX1_reach_62 ⟨by decide, by decide⟩ ?_
    refine aw_icmp_ne (tgt := 69) dX1_reach_63 (by decide) (fun hc => ?_) (fun hc => ?_)
    · have k := k.1 hc
      refine aw_aload_n 4 dX1_reach_69 rfl rfl ?_
      refine aw_getI dX1_reach_70 fl_X1_155 rfl o3 (x := (h v1 5)) rfl ?_
      refine aw_iconst dX1_reach_73 ⟨by decide, by decide⟩ ?_
      refine aw_icmp_ne (tgt := 92) dX1_reach_74 (by decide) (fun hc => ?_) (fun hc => ?_)
      · have k := k.1 hc
        refine aw_aload_n 4 dX1_reach_92 rfl rfl ?_
        refine aw_getI dX1_reach_93 fl_X1_155 rfl o3 (x := (h v1 5)) rfl ?_
        refine aw_iconst dX1_reach_96 ⟨by decide, by decide⟩ ?_
        refine aw_icmp_ne (tgt := 123) dX1_reach_97 (by decide) (fun hc => ?_) (fun hc => ?_)
        · have k := k.1 hc
          refine aw_iload 0 dX1_reach_123 rfl ?_
          refine aw_aload_n 4 dX1_reach_125 rfl rfl ?_
          refine aw_getI dX1_reach_126 fl_X1_171 rfl o3 (x := (h v1 8)) rfl ?_
          refine aw_icmp_ne (tgt := 145) dX1_reach_129 (by decide) (fun hc => ?_) (fun hc => ?_)
          · have k := k.1 hc
            refine aw_aload_n 3 dX1_reach_145 rfl rfl ?_
            refine aw_getR dX1_reach_146 fl_X1_24 rfl o1 (x := (h v0 5)) rfl ?_
            refine aw_aload_n 4 dX1_reach_149 rfl rfl ?_
            refine aw_getI dX1_reach_150 fl_X1_142 rfl o3 (x := (h v1 3)) rfl ?_
            refine aw_iload 0 dX1_reach_153 rfl ?_
            obtain ⟨o12, k⟩ := k
            refine aw_callV (M' := mm_X0_remember) 0 [vI (h v1 3), vI (h (h (h v0 1) 0) ((h (h (h (h v0 1) 1) (h v1 6)) 1) + (h v1 7)))] [] lk_X1_199 ⟨_, rfl, rfl⟩ dX1_reach_155 rfl (Nat.le_of_ble_eq_true rfl) ⟨by decide, by decide, Nat.zero_le _, Nat.zero_le _⟩ o12 ?_
            exact k.mono (fun _ _ z => aw_sub [3, 0] rfl z)
          · have k := k.2 hc
            refine aw_aload_n 3 dX1_reach_132 rfl rfl ?_
            refine aw_getR dX1_reach_133 fl_X1_63 rfl o1 (x := (h v0 1)) rfl ?_
            refine aw_getR dX1_reach_136 fl_X1_166 rfl o2 (x := (h (h v0 1) 0)) rfl ?_
            refine aw_iload_n 1 dX1_reach_139 rfl rfl ?_
            refine aw_aload_n 4 dX1_reach_140 rfl rfl ?_
            refine aw_getI dX1_reach_141 fl_X1_198 rfl o3 (x := (h v1 9)) rfl ?_
            refine aw_iast dX1_reach_144 o9 o10 o11 ?_
            refine aw_hp (fun h1 e13 => ?_)
            have k := k h1 e13
            refine aw_aload_n 3 dX1_reach_145 rfl rfl ?_
            have q14 := sh_w e13 o10 o1
            refine aw_getR dX1_reach_146 fl_X1_24 rfl q14 (x := (h v0 5)) (rd_a e13 v0 5 (ne_sh o9 o1 (by decide))) ?_
            refine aw_aload_n 4 dX1_reach_149 rfl rfl ?_
            have q15 := sh_w e13 o10 o3
            refine aw_getI dX1_reach_150 fl_X1_142 rfl q15 (x := (h v1 3)) (rd_a e13 v1 3 (ne_sh o9 o3 (by decide))) ?_
            refine aw_iload 0 dX1_reach_153 rfl ?_
            obtain ⟨o16, k⟩ := k
            have q17 := sh_w e13 o10 o16
            refine aw_callV (M' := mm_X0_remember) 0 [vI (h v1 3), vI (h (h (h v0 1) 0) ((h (h (h (h v0 1) 1) (h v1 6)) 1) + (h v1 7)))] [] lk_X1_199 ⟨_, rfl, rfl⟩ dX1_reach_155 rfl (Nat.le_of_ble_eq_true rfl) ⟨by decide, by decide, Nat.zero_le _, Nat.zero_le _⟩ q17 ?_
            exact k.mono (fun _ _ z => aw_sub [3, 0] rfl z)
        · have k := k.2 hc
          refine aw_aload_n 3 dX1_reach_100 rfl rfl ?_
          refine aw_getR dX1_reach_101 fl_X1_63 rfl o1 (x := (h v0 1)) rfl ?_
          refine aw_getR dX1_reach_104 fl_X1_166 rfl o2 (x := (h (h v0 1) 0)) rfl ?_
          refine aw_iload_n 1 dX1_reach_107 rfl rfl ?_
          refine aw_iload 0 dX1_reach_108 rfl ?_
          refine aw_aload_n 4 dX1_reach_110 rfl rfl ?_
          refine aw_getI dX1_reach_111 fl_X1_171 rfl o3 (x := (h v1 8)) rfl ?_
          obtain ⟨o18, k⟩ := k
          refine aw_iadd dX1_reach_114 o18 ?_
          refine aw_sipush dX1_reach_115 ⟨by decide, by decide⟩ (by decide) ?_
          obtain ⟨o19, k⟩ := k
          refine aw_irem dX1_reach_118 o19 (by decide) ?_
          refine aw_iast dX1_reach_119 o9 o10 o11 ?_
          refine aw_hp (fun h1 e20 => ?_)
          have k := k h1 e20
          refine aw_goto (tgt := 145) dX1_reach_120 (by decide) ?_
          refine aw_aload_n 3 dX1_reach_145 rfl rfl ?_
          have q21 := sh_w e20 o10 o1
          refine aw_getR dX1_reach_146 fl_X1_24 rfl q21 (x := (h v0 5)) (rd_a e20 v0 5 (ne_sh o9 o1 (by decide))) ?_
          refine aw_aload_n 4 dX1_reach_149 rfl rfl ?_
          have q22 := sh_w e20 o10 o3
          refine aw_getI dX1_reach_150 fl_X1_142 rfl q22 (x := (h v1 3)) (rd_a e20 v1 3 (ne_sh o9 o3 (by decide))) ?_
          refine aw_iload 0 dX1_reach_153 rfl ?_
          obtain ⟨o23, k⟩ := k
          have q24 := sh_w e20 o10 o23
          refine aw_callV (M' := mm_X0_remember) 0 [vI (h v1 3), vI (h (h (h v0 1) 0) ((h (h (h (h v0 1) 1) (h v1 6)) 1) + (h v1 7)))] [] lk_X1_199 ⟨_, rfl, rfl⟩ dX1_reach_155 rfl (Nat.le_of_ble_eq_true rfl) ⟨by decide, by decide, Nat.zero_le _, Nat.zero_le _⟩ q24 ?_
          exact k.mono (fun _ _ z => aw_sub [3, 0] rfl z)
      · have k := k.2 hc
        refine aw_aload_n 3 dX1_reach_77 rfl rfl ?_
        refine aw_getR dX1_reach_78 fl_X1_63 rfl o1 (x := (h v0 1)) rfl ?_
        refine aw_getR dX1_reach_81 fl_X1_166 rfl o2 (x := (h (h v0 1) 0)) rfl ?_
        refine aw_iload_n 1 dX1_reach_84 rfl rfl ?_
        refine aw_aload_n 4 dX1_reach_85 rfl rfl ?_
        refine aw_getI dX1_reach_86 fl_X1_171 rfl o3 (x := (h v1 8)) rfl ?_
        refine aw_iast dX1_reach_89 o9 o10 o11 ?_
        refine aw_hp (fun h1 e25 => ?_)
        have k := k h1 e25
        refine aw_iconst dX1_reach_90 ⟨by decide, by decide⟩ ?_
        exact aw_iret dX1_reach_91 rfl k
    · have k := k.2 hc
      refine aw_iload 0 dX1_reach_66 rfl ?_
      exact aw_iret dX1_reach_68 rfl k
  · have k := k.2 hc
    refine aw_aload_n 1 dX1_reach_10 rfl rfl ?_
    refine aw_iconst dX1_reach_11 ⟨by decide, by decide⟩ ?_
    refine aw_aload_n 2 dX1_reach_12 rfl rfl ?_
    obtain ⟨o26, k⟩ := k
    refine aw_getI dX1_reach_13 fl_X1_142 rfl o26 (x := (h v1 3)) rfl ?_
    refine aw_iload_n 0 dX1_reach_16 rfl rfl ?_
    obtain ⟨o27, k⟩ := k
    refine aw_callV (M' := mm_X1_answer) 1 [vI 4, vI (h v1 3), vI s0] [] lk_X1_152 ⟨_, rfl, rfl⟩ dX1_reach_17 rfl (Nat.le_of_ble_eq_true rfl) ⟨by decide, by decide, Nat.zero_le _, Nat.zero_le _⟩ o27 ?_
    exact k.mono (fun _ _ z => aw_sub [1] rfl z)
set_option maxRecDepth 20000 in
theorem sg_X1_reach_158 {G : GG} {b : Nat × Nat} {Q : Option VV → Hp → Prop} {v0 v4 : Int} {h : Hp} (k : (h v0 (-1) = 2) ∧ (h (h v0 1) (-1) = 3) ∧ (inI ((h (h v0 1) 5) + 1)) ∧ ∀ h1, h1 = wr h (h v0 1) 5 ((h (h v0 1) 5) + 1) → Q (some (vI v4)) h1) : AW G mm_X1_reach b 158 [(0, vR v0), (4, vI v4)] [] h Q := by
  refine aw_aload_n 0 dX1_reach_158 rfl rfl ?_
  obtain ⟨o1, k⟩ := k
  refine aw_getR dX1_reach_159 fl_X1_63 rfl o1 (x := (h v0 1)) rfl ?_
  refine aw_dup dX1_reach_162 rfl ?_
  obtain ⟨o2, k⟩ := k
  refine aw_getI dX1_reach_163 fl_X1_202 rfl o2 (x := (h (h v0 1) 5)) rfl ?_
  refine aw_iconst dX1_reach_166 ⟨by decide, by decide⟩ ?_
  obtain ⟨o3, k⟩ := k
  refine aw_iadd dX1_reach_167 o3 ?_
  refine aw_putI dX1_reach_168 fl_X1_202 (fun q hq hf => by cases hq; cases hf) rfl rfl o2 ?_
  refine aw_hp (fun h1 e4 => ?_)
  have k := k h1 e4
  refine aw_iload 1 dX1_reach_171 rfl ?_
  exact aw_iret dX1_reach_173 rfl k
set_option maxRecDepth 20000 in
theorem sg_X1_reach_20 {G : GG} {b : Nat × Nat} {Q : Option VV → Hp → Prop} {v0 : Int} {h : Hp} (k : (7 ≤ b.1) ∧ (42 ≤ b.2) ∧ (h v0 (-1) = 2) ∧ Runs G mm_X1_breakUp [vR v0] h (fun r h' => AW G mm_X1_reach (b.1 - 7, b.2 - 42) 24 [] (r.toList ++ []) h' Q)) : AW G mm_X1_reach b 20 [(0, vR v0)] [] h Q := by
  refine aw_aload_n 0 dX1_reach_20 rfl rfl ?_
  obtain ⟨o1, k⟩ := k
  obtain ⟨o2, k⟩ := k
  obtain ⟨o3, k⟩ := k
  refine aw_callV (M' := mm_X1_breakUp) 1 [] [] lk_X1_184 ⟨_, rfl, rfl⟩ dX1_reach_21 rfl (Nat.le_of_ble_eq_true rfl) ⟨by decide, by decide, o1, o2⟩ o3 ?_
  exact k.mono (fun _ _ z => aw_sub [] rfl z)
set_option maxRecDepth 20000 in
theorem sg_X1_reach_24 {G : GG} {b : Nat × Nat} {Q : Option VV → Hp → Prop} {h : Hp} (k : Q (some (vI (-1))) h) : AW G mm_X1_reach b 24 [] [] h Q := by
  refine aw_iconst dX1_reach_24 ⟨by decide, by decide⟩ ?_
  exact aw_iret dX1_reach_25 rfl k
set_option maxRecDepth 20000 in
theorem sg_X1_reasonAgainst_0 {G : GG} {b : Nat × Nat} {Q : Option VV → Hp → Prop} {v0 v1 : Int} {h : Hp} (k : (h v0 (-1) = 2) ∧ (h (h v0 1) (-1) = 3) ∧ (h v1 (-1) = 6) ∧ (h (h (h v0 1) 1) (-1) = 33) ∧ (0 ≤ (h v1 6)) ∧ ((h v1 6) < h (h (h v0 1) 1) (-2)) ∧ (h (h (h (h v0 1) 1) (h v1 6)) (-1) = 4) ∧ ((¬ (h (h (h (h v0 1) 1) (h v1 6)) 0) = 0) → (((h v1 7) < (h (h (h (h v0 1) 1) (h v1 6)) 2)) → Runs G mm_X1_rightFor [vI (h v1 5)] h (fun r h' => AW G mm_X1_reasonAgainst b 46 [] (r.toList ++ [vI (h (h (h (h v0 1) 1) (h v1 6)) 3)]) h' Q)) ∧ ((¬ ((h v1 7) < (h (h (h (h v0 1) 1) (h v1 6)) 2))) → Q (some (vI 2)) h)) ∧ (((h (h (h (h v0 1) 1) (h v1 6)) 0) = 0) → Q (some (vI 1)) h)) : AW G mm_X1_reasonAgainst b 0 [(0, vR v0), (1, vR v1)] [] h Q := by
  refine aw_aload_n 0 dX1_reasonAgainst_0 rfl rfl ?_
  obtain ⟨o1, k⟩ := k
  refine aw_getR dX1_reasonAgainst_1 fl_X1_63 rfl o1 (x := (h v0 1)) rfl ?_
  obtain ⟨o2, k⟩ := k
  refine aw_getR dX1_reasonAgainst_4 fl_X1_187 rfl o2 (x := (h (h v0 1) 1)) rfl ?_
  refine aw_aload_n 1 dX1_reasonAgainst_7 rfl rfl ?_
  obtain ⟨o3, k⟩ := k
  refine aw_getI dX1_reasonAgainst_8 fl_X1_191 rfl o3 (x := (h v1 6)) rfl ?_
  obtain ⟨o4, k⟩ := k
  obtain ⟨o5, k⟩ := k
  obtain ⟨o6, k⟩ := k
  refine aw_aald 5 3 aq_3 dX1_reasonAgainst_11 o4 o5 o6 (x := (h (h (h v0 1) 1) (h v1 6))) rfl ?_
  refine aw_astore_n dX1_reasonAgainst_12 rfl (by decide) ?_
  refine aw_aload_n 0 dX1_reasonAgainst_13 rfl rfl ?_
  obtain ⟨o7, k⟩ := k
  refine aw_getI dX1_reasonAgainst_14 fl_X1_205 rfl o7 (x := (h (h (h (h v0 1) 1) (h v1 6)) 0)) rfl ?_
  refine aw_if_ne (tgt := 22) dX1_reasonAgainst_17 (by decide) (fun hc => ?_) (fun hc => ?_)
  · have k := k.1 hc
    refine aw_aload_n 2 dX1_reasonAgainst_22 rfl rfl ?_
    refine aw_getI dX1_reasonAgainst_23 fl_X1_197 rfl o3 (x := (h v1 7)) rfl ?_
    refine aw_aload_n 0 dX1_reasonAgainst_26 rfl rfl ?_
    refine aw_getI dX1_reasonAgainst_27 fl_X1_208 rfl o7 (x := (h (h (h (h v0 1) 1) (h v1 6)) 2)) rfl ?_
    refine aw_icmp_lt (tgt := 35) dX1_reasonAgainst_30 (by decide) (fun hc => ?_) (fun hc => ?_)
    · have k := k.1 hc
      refine aw_aload_n 0 dX1_reasonAgainst_35 rfl rfl ?_
      refine aw_getI dX1_reasonAgainst_36 fl_X1_211 rfl o7 (x := (h (h (h (h v0 1) 1) (h v1 6)) 3)) rfl ?_
      refine aw_aload_n 2 dX1_reasonAgainst_39 rfl rfl ?_
      refine aw_getI dX1_reasonAgainst_40 fl_X1_155 rfl o3 (x := (h v1 5)) rfl ?_
      refine aw_callS (M' := mm_X1_rightFor) [vI (h v1 5)] [vI (h (h (h (h v0 1) 1) (h v1 6)) 3)] lk_X1_214 dX1_reasonAgainst_43 rfl (Nat.le_of_ble_eq_true rfl) ⟨by decide, by decide, Nat.zero_le _, Nat.zero_le _⟩ ?_
      exact k.mono (fun _ _ z => aw_sub [] rfl z)
    · have k := k.2 hc
      refine aw_iconst dX1_reasonAgainst_33 ⟨by decide, by decide⟩ ?_
      exact aw_iret dX1_reasonAgainst_34 rfl k
  · have k := k.2 hc
    refine aw_iconst dX1_reasonAgainst_20 ⟨by decide, by decide⟩ ?_
    exact aw_iret dX1_reasonAgainst_21 rfl k
theorem rn_X1_reasonAgainst {G : GG} {Q : Option VV → Hp → Prop} {v0 v1 : Int} {h : Hp} (k : (h v0 (-1) = 2) ∧ (h (h v0 1) (-1) = 3) ∧ (h v1 (-1) = 6) ∧ (h (h (h v0 1) 1) (-1) = 33) ∧ (0 ≤ (h v1 6)) ∧ ((h v1 6) < h (h (h v0 1) 1) (-2)) ∧ (h (h (h (h v0 1) 1) (h v1 6)) (-1) = 4) ∧ ((¬ (h (h (h (h v0 1) 1) (h v1 6)) 0) = 0) → (((h v1 7) < (h (h (h (h v0 1) 1) (h v1 6)) 2)) → Runs G mm_X1_rightFor [vI (h v1 5)] h (fun r h' => AW G mm_X1_reasonAgainst (0, 0) 46 [] (r.toList ++ [vI (h (h (h (h v0 1) 1) (h v1 6)) 3)]) h' Q)) ∧ ((¬ ((h v1 7) < (h (h (h (h v0 1) 1) (h v1 6)) 2))) → Q (some (vI 2)) h)) ∧ (((h (h (h (h v0 1) 1) (h v1 6)) 0) = 0) → Q (some (vI 1)) h)) : Runs G mm_X1_reasonAgainst [vR v0, vR v1] h Q := Runs.of (by decide +kernel) (Nat.le_of_ble_eq_true rfl) (sg_X1_reasonAgainst_0 (b := (0, 0)) k)
set_option maxRecDepth 20000 in
theorem sg_X1_reasonAgainst_46 {G : GG} {b : Nat × Nat} {Q : Option VV → Hp → Prop} {s0 s1 : Int} {h : Hp} (k : ((¬ (iAnd s1 s0) = 0) → Q (some (vI 0)) h) ∧ (((iAnd s1 s0) = 0) → Q (some (vI 3)) h)) : AW G mm_X1_reasonAgainst b 46 [] [vI s0, vI s1] h Q := by
  refine aw_iand dX1_reasonAgainst_46 ?_
  refine aw_if_ne (tgt := 54) dX1_reasonAgainst_47 (by decide) (fun hc => ?_) (fun hc => ?_)
  · have k := k.1 hc
    refine aw_iconst dX1_reasonAgainst_54 ⟨by decide, by decide⟩ ?_
    exact aw_iret dX1_reasonAgainst_55 rfl k
  · have k := k.2 hc
    refine aw_iconst dX1_reasonAgainst_50 ⟨by decide, by decide⟩ ?_
    refine aw_goto (tgt := 55) dX1_reasonAgainst_51 (by decide) ?_
    exact aw_iret dX1_reasonAgainst_55 rfl k
set_option maxRecDepth 20000 in
theorem sg_X1_request_0 {G : GG} {b : Nat × Nat} {Q : Option VV → Hp → Prop} {v0 v1 : Int} {h : Hp} (k : (h v0 (-1) = 2) ∧ Runs G mm_X9_otherEnd [vI (h v0 0)] h (fun r h' => AW G mm_X1_request b 11 [(1, vR v1)] (r.toList ++ [vR (h v0 2)]) h' Q)) : AW G mm_X1_request b 0 [(0, vR v0), (1, vR v1)] [] h Q := by
  refine aw_aload_n 0 dX1_request_0 rfl rfl ?_
  obtain ⟨o1, k⟩ := k
  refine aw_getR dX1_request_1 fl_X1_67 rfl o1 (x := (h v0 2)) rfl ?_
  refine aw_aload_n 0 dX1_request_4 rfl rfl ?_
  refine aw_getI dX1_request_5 fl_X1_60 rfl o1 (x := (h v0 0)) rfl ?_
  refine aw_callSN (M' := mm_X9_otherEnd) [vI (h v0 0)] [vR (h v0 2)] lk_X1_116 dX1_request_8 rfl (Nat.le_of_ble_eq_true rfl) ⟨by decide, by decide, Nat.zero_le _, Nat.zero_le _⟩ ?_
  exact k.mono (fun _ _ z => aw_sub [1] rfl z)
theorem rn_X1_request {G : GG} {Q : Option VV → Hp → Prop} {v0 v1 : Int} {h : Hp} (k : (h v0 (-1) = 2) ∧ Runs G mm_X9_otherEnd [vI (h v0 0)] h (fun r h' => AW G mm_X1_request (0, 0) 11 [(1, vR v1)] (r.toList ++ [vR (h v0 2)]) h' Q)) : Runs G mm_X1_request [vR v0, vR v1] h Q := Runs.of (by decide +kernel) (Nat.le_of_ble_eq_true rfl) (sg_X1_request_0 (b := (0, 0)) k)
set_option maxRecDepth 20000 in
theorem sg_X1_request_11 {G : GG} {b : Nat × Nat} {Q : Option VV → Hp → Prop} {v1 s0 s1 : Int} {h : Hp} (k : (h s1 (-1) = 8) ∧ Runs G mm_X7_placeFor [vR s1, vI s0] h (fun r h' => AW G mm_X1_request b 14 [(1, vR v1)] (r.toList ++ []) h' Q)) : AW G mm_X1_request b 11 [(1, vR v1)] [vI s0, vR s1] h Q := by
  obtain ⟨o1, k⟩ := k
  refine aw_callV (M' := mm_X7_placeFor) 7 [vI s0] [] lk_X1_120 ⟨_, rfl, rfl⟩ dX1_request_11 rfl (Nat.le_of_ble_eq_true rfl) ⟨by decide, by decide, Nat.zero_le _, Nat.zero_le _⟩ o1 ?_
  exact k
set_option maxRecDepth 20000 in
theorem sg_X1_request_14 {G : GG} {b : Nat × Nat} {Q : Option VV → Hp → Prop} {v1 s0 : Int} {h : Hp} (k : ((s0 = 0) → Q none h) ∧ ((¬ s0 = 0) → (h s0 (-1) = 6) ∧ Runs G mm_X5_beRequest [vR s0, vR v1] h (fun r h' => AW G mm_X1_request b 24 [] (r.toList ++ []) h' Q))) : AW G mm_X1_request b 14 [(1, vR v1)] [vR s0] h Q := by
  refine aw_astore_n dX1_request_14 rfl (by decide) ?_
  refine aw_aload_n 0 dX1_request_15 rfl rfl ?_
  refine aw_ifnull (tgt := 24) dX1_request_16 (by decide) (fun hc => ?_) (fun hc => ?_)
  · have k := k.1 hc
    exact aw_vret dX1_request_24 rfl k
  · have k := k.2 hc
    refine aw_aload_n 0 dX1_request_19 rfl rfl ?_
    refine aw_aload_n 1 dX1_request_20 rfl rfl ?_
    obtain ⟨o1, k⟩ := k
    refine aw_callV (M' := mm_X5_beRequest) 5 [vR v1] [] lk_X1_126 ⟨_, rfl, rfl⟩ dX1_request_21 rfl (Nat.le_of_ble_eq_true rfl) ⟨by decide, by decide, Nat.zero_le _, Nat.zero_le _⟩ o1 ?_
    exact k.mono (fun _ _ z => aw_sub [] rfl z)
set_option maxRecDepth 20000 in
theorem sg_X1_request_24 {G : GG} {b : Nat × Nat} {Q : Option VV → Hp → Prop} {h : Hp} (k : Q none h) : AW G mm_X1_request b 24 [] [] h Q := by
  exact aw_vret dX1_request_24 rfl k
set_option maxRecDepth 20000 in
theorem sg_X1_reset_0 {G : GG} {b : Nat × Nat} {Q : Option VV → Hp → Prop} {v0 : Int} {h : Hp} (k : (h v0 (-1) = 2) ∧ Runs G mm_X1_restart [vR v0, vI 0] h (fun r h' => AW G mm_X1_reset b 5 [(0, vR v0)] (r.toList ++ []) h' Q)) : AW G mm_X1_reset b 0 [(0, vR v0)] [] h Q := by
  refine aw_aload_n 0 dX1_reset_0 rfl rfl ?_
  refine aw_iconst dX1_reset_1 ⟨by decide, by decide⟩ ?_
  obtain ⟨o1, k⟩ := k
  refine aw_callV (M' := mm_X1_restart) 1 [vI 0] [] lk_X1_72 ⟨_, rfl, rfl⟩ dX1_reset_2 rfl (Nat.le_of_ble_eq_true rfl) ⟨by decide, by decide, Nat.zero_le _, Nat.zero_le _⟩ o1 ?_
  exact k
theorem rn_X1_reset {G : GG} {Q : Option VV → Hp → Prop} {v0 : Int} {h : Hp} (k : (h v0 (-1) = 2) ∧ Runs G mm_X1_restart [vR v0, vI 0] h (fun r h' => AW G mm_X1_reset (0, 0) 5 [(0, vR v0)] (r.toList ++ []) h' Q)) : Runs G mm_X1_reset [vR v0] h Q := Runs.of (by decide +kernel) (Nat.le_of_ble_eq_true rfl) (sg_X1_reset_0 (b := (0, 0)) k)
set_option maxRecDepth 20000 in
theorem sg_X1_reset_5 {G : GG} {b : Nat × Nat} {Q : Option VV → Hp → Prop} {v0 : Int} {h : Hp} (k : (h v0 (-1) = 2) ∧ Runs G mm_X1_setAim [vR v0, vI 0, vI 0] h (fun r h' => AW G mm_X1_reset b 11 [] (r.toList ++ []) h' Q)) : AW G mm_X1_reset b 5 [(0, vR v0)] [] h Q := by
  refine aw_aload_n 0 dX1_reset_5 rfl rfl ?_
  refine aw_iconst dX1_reset_6 ⟨by decide, by decide⟩ ?_
  refine aw_iconst dX1_reset_7 ⟨by decide, by decide⟩ ?_
  obtain ⟨o1, k⟩ := k
  refine aw_callV (M' := mm_X1_setAim) 1 [vI 0, vI 0] [] lk_X1_76 ⟨_, rfl, rfl⟩ dX1_reset_8 rfl (Nat.le_of_ble_eq_true rfl) ⟨by decide, by decide, Nat.zero_le _, Nat.zero_le _⟩ o1 ?_
  exact k.mono (fun _ _ z => aw_sub [] rfl z)
set_option maxRecDepth 20000 in
theorem sg_X1_reset_11 {G : GG} {b : Nat × Nat} {Q : Option VV → Hp → Prop} {h : Hp} (k : Q none h) : AW G mm_X1_reset b 11 [] [] h Q := by
  exact aw_vret dX1_reset_11 rfl k
set_option maxRecDepth 20000 in
theorem sg_X1_restart_0 {G : GG} {b : Nat × Nat} {Q : Option VV → Hp → Prop} {v0 v1 : Int} {h : Hp} (k : (h v0 (-1) = 2) ∧ ∀ h1, h1 = wr h v0 6 v1 → ∀ h2, h2 = wr h1 v0 7 0 → ∀ h3, h3 = wr h2 v0 8 0 → ∀ h4, h4 = wr h3 v0 9 0 → ∀ h5, h5 = wr h4 v0 10 0 → ∀ h6, h6 = wr h5 v0 11 0 → ∀ h7, h7 = wr h6 v0 12 0 → ∀ h8, h8 = wr h7 v0 13 0 → (h (h v0 5) (-1) = 1) ∧ ∀ h9, h9 = wr h8 (h v0 5) 2 0 → Q none h9) : AW G mm_X1_restart b 0 [(0, vR v0), (1, vI v1)] [] h Q := by
  refine aw_aload_n 0 dX1_restart_0 rfl rfl ?_
  refine aw_iload_n 1 dX1_restart_1 rfl rfl ?_
  obtain ⟨o1, k⟩ := k
  refine aw_putI dX1_restart_2 fl_X1_28 (fun q hq hf => by cases hq; cases hf) rfl rfl o1 ?_
  refine aw_hp (fun h1 e2 => ?_)
  have k := k h1 e2
  refine aw_aload_n 0 dX1_restart_5 rfl rfl ?_
  refine aw_iconst dX1_restart_6 ⟨by decide, by decide⟩ ?_
  have q3 := sh_w e2 (by decide) o1
  refine aw_putI dX1_restart_7 fl_X1_32 (fun q hq hf => by cases hq; cases hf) rfl rfl q3 ?_
  refine aw_hp (fun h2 e4 => ?_)
  have k := k h2 e4
  refine aw_aload_n 0 dX1_restart_10 rfl rfl ?_
  refine aw_iconst dX1_restart_11 ⟨by decide, by decide⟩ ?_
  have q5 := sh_w e4 (by decide) q3
  refine aw_putI dX1_restart_12 fl_X1_35 (fun q hq hf => by cases hq; cases hf) rfl rfl q5 ?_
  refine aw_hp (fun h3 e6 => ?_)
  have k := k h3 e6
  refine aw_aload_n 0 dX1_restart_15 rfl rfl ?_
  refine aw_iconst dX1_restart_16 ⟨by decide, by decide⟩ ?_
  have q7 := sh_w e6 (by decide) q5
  refine aw_putI dX1_restart_17 fl_X1_38 (fun q hq hf => by cases hq; cases hf) rfl rfl q7 ?_
  refine aw_hp (fun h4 e8 => ?_)
  have k := k h4 e8
  refine aw_aload_n 0 dX1_restart_20 rfl rfl ?_
  refine aw_iconst dX1_restart_21 ⟨by decide, by decide⟩ ?_
  have q9 := sh_w e8 (by decide) q7
  refine aw_putI dX1_restart_22 fl_X1_41 (fun q hq hf => by cases hq; cases hf) rfl rfl q9 ?_
  refine aw_hp (fun h5 e10 => ?_)
  have k := k h5 e10
  refine aw_aload_n 0 dX1_restart_25 rfl rfl ?_
  refine aw_iconst dX1_restart_26 ⟨by decide, by decide⟩ ?_
  have q11 := sh_w e10 (by decide) q9
  refine aw_putI dX1_restart_27 fl_X1_44 (fun q hq hf => by cases hq; cases hf) rfl rfl q11 ?_
  refine aw_hp (fun h6 e12 => ?_)
  have k := k h6 e12
  refine aw_aload_n 0 dX1_restart_30 rfl rfl ?_
  refine aw_iconst dX1_restart_31 ⟨by decide, by decide⟩ ?_
  have q13 := sh_w e12 (by decide) q11
  refine aw_putI dX1_restart_32 fl_X1_47 (fun q hq hf => by cases hq; cases hf) rfl rfl q13 ?_
  refine aw_hp (fun h7 e14 => ?_)
  have k := k h7 e14
  refine aw_aload_n 0 dX1_restart_35 rfl rfl ?_
  refine aw_iconst dX1_restart_36 ⟨by decide, by decide⟩ ?_
  have q15 := sh_w e14 (by decide) q13
  refine aw_putZ dX1_restart_37 fl_X1_50 (fun q hq hf => by cases hq; cases hf) rfl rfl (by decide) q15 ?_
  refine aw_hp (fun h8 e16 => ?_)
  have k := k h8 e16
  refine aw_aload_n 0 dX1_restart_40 rfl rfl ?_
  have q17 := sh_w e16 (by decide) q15
  refine aw_getR dX1_restart_41 fl_X1_24 rfl q17 (x := (h v0 5)) ((rd_k e16 5 (by decide)).trans ((rd_k e14 5 (by decide)).trans ((rd_k e12 5 (by decide)).trans ((rd_k e10 5 (by decide)).trans ((rd_k e8 5 (by decide)).trans ((rd_k e6 5 (by decide)).trans ((rd_k e4 5 (by decide)).trans (rd_k e2 5 (by decide))))))))) ?_
  refine aw_iconst dX1_restart_44 ⟨by decide, by decide⟩ ?_
  obtain ⟨o18, k⟩ := k
  have q19 := sh_w e2 (by decide) o18
  have q20 := sh_w e4 (by decide) q19
  have q21 := sh_w e6 (by decide) q20
  have q22 := sh_w e8 (by decide) q21
  have q23 := sh_w e10 (by decide) q22
  have q24 := sh_w e12 (by decide) q23
  have q25 := sh_w e14 (by decide) q24
  have q26 := sh_w e16 (by decide) q25
  refine aw_putI dX1_restart_45 fl_X1_80 (fun q hq hf => by cases hq; cases hf) rfl rfl q26 ?_
  refine aw_hp (fun h9 e27 => ?_)
  have k := k h9 e27
  exact aw_vret dX1_restart_48 rfl k
theorem rn_X1_restart {G : GG} {Q : Option VV → Hp → Prop} {v0 v1 : Int} {h : Hp} (k : (h v0 (-1) = 2) ∧ ∀ h1, h1 = wr h v0 6 v1 → ∀ h2, h2 = wr h1 v0 7 0 → ∀ h3, h3 = wr h2 v0 8 0 → ∀ h4, h4 = wr h3 v0 9 0 → ∀ h5, h5 = wr h4 v0 10 0 → ∀ h6, h6 = wr h5 v0 11 0 → ∀ h7, h7 = wr h6 v0 12 0 → ∀ h8, h8 = wr h7 v0 13 0 → (h (h v0 5) (-1) = 1) ∧ ∀ h9, h9 = wr h8 (h v0 5) 2 0 → Q none h9) : Runs G mm_X1_restart [vR v0, vI v1] h Q := Runs.of (by decide +kernel) (Nat.le_of_ble_eq_true rfl) (sg_X1_restart_0 (b := (0, 0)) k)
set_option maxRecDepth 20000 in
theorem sg_X1_rightFor_0 {G : GG} {b : Nat × Nat} {Q : Option VV → Hp → Prop} {v0 : Int} {h : Hp} (k : ((¬ v0 = 2) → ((¬ v0 = 1) → Q (some (vI 4)) h) ∧ ((v0 = 1) → Q (some (vI 2)) h)) ∧ ((v0 = 2) → Q (some (vI 1)) h)) : AW G mm_X1_rightFor b 0 [(0, vI v0)] [] h Q := by
  refine aw_iload_n 0 dX1_rightFor_0 rfl rfl ?_
  refine aw_iconst dX1_rightFor_1 ⟨by decide, by decide⟩ ?_
  refine aw_icmp_ne (tgt := 7) dX1_rightFor_2 (by decide) (fun hc => ?_) (fun hc => ?_)
  · have k := k.1 hc
    refine aw_iload_n 0 dX1_rightFor_7 rfl rfl ?_
    refine aw_iconst dX1_rightFor_8 ⟨by decide, by decide⟩ ?_
    refine aw_icmp_ne (tgt := 16) dX1_rightFor_9 (by decide) (fun hc => ?_) (fun hc => ?_)
    · have k := k.1 hc
      refine aw_iconst dX1_rightFor_16 ⟨by decide, by decide⟩ ?_
      exact aw_iret dX1_rightFor_17 rfl k
    · have k := k.2 hc
      refine aw_iconst dX1_rightFor_12 ⟨by decide, by decide⟩ ?_
      refine aw_goto (tgt := 17) dX1_rightFor_13 (by decide) ?_
      exact aw_iret dX1_rightFor_17 rfl k
  · have k := k.2 hc
    refine aw_iconst dX1_rightFor_5 ⟨by decide, by decide⟩ ?_
    exact aw_iret dX1_rightFor_6 rfl k
theorem rn_X1_rightFor {G : GG} {Q : Option VV → Hp → Prop} {v0 : Int} {h : Hp} (k : ((¬ v0 = 2) → ((¬ v0 = 1) → Q (some (vI 4)) h) ∧ ((v0 = 1) → Q (some (vI 2)) h)) ∧ ((v0 = 2) → Q (some (vI 1)) h)) : Runs G mm_X1_rightFor [vI v0] h Q := Runs.of (by decide +kernel) (Nat.le_of_ble_eq_true rfl) (sg_X1_rightFor_0 (b := (0, 0)) k)
set_option maxRecDepth 20000 in
theorem sg_X1_setAim_0 {G : GG} {b : Nat × Nat} {Q : Option VV → Hp → Prop} {v0 v1 v2 : Int} {h : Hp} (k : (h v0 (-1) = 2) ∧ ∀ h1, h1 = wr h v0 14 v1 → ∀ h2, h2 = wr h1 v0 15 v2 → Q none h2) : AW G mm_X1_setAim b 0 [(0, vR v0), (1, vI v1), (2, vI v2)] [] h Q := by
  refine aw_aload_n 0 dX1_setAim_0 rfl rfl ?_
  refine aw_iload_n 1 dX1_setAim_1 rfl rfl ?_
  obtain ⟨o1, k⟩ := k
  refine aw_putI dX1_setAim_2 fl_X1_54 (fun q hq hf => by cases hq; cases hf) rfl rfl o1 ?_
  refine aw_hp (fun h1 e2 => ?_)
  have k := k h1 e2
  refine aw_aload_n 0 dX1_setAim_5 rfl rfl ?_
  refine aw_iload_n 2 dX1_setAim_6 rfl rfl ?_
  have q3 := sh_w e2 (by decide) o1
  refine aw_putI dX1_setAim_7 fl_X1_57 (fun q hq hf => by cases hq; cases hf) rfl rfl q3 ?_
  refine aw_hp (fun h2 e4 => ?_)
  have k := k h2 e4
  exact aw_vret dX1_setAim_10 rfl k
theorem rn_X1_setAim {G : GG} {Q : Option VV → Hp → Prop} {v0 v1 v2 : Int} {h : Hp} (k : (h v0 (-1) = 2) ∧ ∀ h1, h1 = wr h v0 14 v1 → ∀ h2, h2 = wr h1 v0 15 v2 → Q none h2) : Runs G mm_X1_setAim [vR v0, vI v1, vI v2] h Q := Runs.of (by decide +kernel) (Nat.le_of_ble_eq_true rfl) (sg_X1_setAim_0 (b := (0, 0)) k)
set_option maxRecDepth 20000 in
theorem sg_X1_takeIn_0 {G : GG} {b : Nat × Nat} {Q : Option VV → Hp → Prop} {v0 v1 : Int} {h : Hp} (k : (h v0 (-1) = 2) ∧ ((¬ (h v0 10) = 0) → (h (h v0 1) (-1) = 3) ∧ (h (h v0 4) (-1) = 20) ∧ (0 < h (h v0 4) (-2)) ∧ (h v1 (-1) = 6) ∧ (h (h (h v0 1) 0) (-1) = 20) ∧ (0 ≤ (h (h v0 4) 0)) ∧ ((h (h v0 4) 0) < h (h (h v0 1) 0) (-2)) ∧ ∀ h1, h1 = wr h (h (h v0 1) 0) (h (h v0 4) 0) (h v1 8) → AW G mm_X1_takeIn b 39 [(0, vR v0), (1, vR v1), (2, vI 1)] [] h1 Q) ∧ (((h v0 10) = 0) → (h v1 (-1) = 6) ∧ Runs G mm_X1_answer [vR v0, vI 3, vI (h v1 3), vI 0] h (fun r h' => AW G mm_X1_takeIn b 17 [] (r.toList ++ []) h' Q))) : AW G mm_X1_takeIn b 0 [(0, vR v0), (1, vR v1)] [] h Q := by
  refine aw_aload_n 0 dX1_takeIn_0 rfl rfl ?_
  obtain ⟨o1, k⟩ := k
  refine aw_getI dX1_takeIn_1 fl_X1_41 rfl o1 (x := (h v0 10)) rfl ?_
  refine aw_if_ne (tgt := 19) dX1_takeIn_4 (by decide) (fun hc => ?_) (fun hc => ?_)
  · have k := k.1 hc
    refine aw_aload_n 0 dX1_takeIn_19 rfl rfl ?_
    refine aw_getR dX1_takeIn_20 fl_X1_63 rfl o1 (x := (h v0 1)) rfl ?_
    obtain ⟨o2, k⟩ := k
    refine aw_getR dX1_takeIn_23 fl_X1_166 rfl o2 (x := (h (h v0 1) 0)) rfl ?_
    refine aw_aload_n 0 dX1_takeIn_26 rfl rfl ?_
    refine aw_getR dX1_takeIn_27 fl_X1_17 rfl o1 (x := (h v0 4)) rfl ?_
    refine aw_iconst dX1_takeIn_30 ⟨by decide, by decide⟩ ?_
    obtain ⟨o3, k⟩ := k
    obtain ⟨o4, k⟩ := k
    refine aw_iald dX1_takeIn_31 o3 (by decide) o4 (x := (h (h v0 4) 0)) rfl ?_
    refine aw_aload_n 1 dX1_takeIn_32 rfl rfl ?_
    obtain ⟨o5, k⟩ := k
    refine aw_getI dX1_takeIn_33 fl_X1_171 rfl o5 (x := (h v1 8)) rfl ?_
    obtain ⟨o6, k⟩ := k
    obtain ⟨o7, k⟩ := k
    obtain ⟨o8, k⟩ := k
    refine aw_iast dX1_takeIn_36 o6 o7 o8 ?_
    refine aw_hp (fun h1 e9 => ?_)
    have k := k h1 e9
    refine aw_iconst dX1_takeIn_37 ⟨by decide, by decide⟩ ?_
    refine aw_istore_n dX1_takeIn_38 rfl (by decide) ?_
    exact aw_sub [1, 2, 0] rfl k
  · have k := k.2 hc
    refine aw_aload_n 0 dX1_takeIn_7 rfl rfl ?_
    refine aw_iconst dX1_takeIn_8 ⟨by decide, by decide⟩ ?_
    refine aw_aload_n 1 dX1_takeIn_9 rfl rfl ?_
    obtain ⟨o10, k⟩ := k
    refine aw_getI dX1_takeIn_10 fl_X1_142 rfl o10 (x := (h v1 3)) rfl ?_
    refine aw_iconst dX1_takeIn_13 ⟨by decide, by decide⟩ ?_
    refine aw_callV (M' := mm_X1_answer) 1 [vI 3, vI (h v1 3), vI 0] [] lk_X1_152 ⟨_, rfl, rfl⟩ dX1_takeIn_14 rfl (Nat.le_of_ble_eq_true rfl) ⟨by decide, by decide, Nat.zero_le _, Nat.zero_le _⟩ o1 ?_
    exact k.mono (fun _ _ z => aw_sub [] rfl z)
theorem rn_X1_takeIn {G : GG} {Q : Option VV → Hp → Prop} {v0 v1 : Int} {h : Hp} (k : (h v0 (-1) = 2) ∧ ((¬ (h v0 10) = 0) → (h (h v0 1) (-1) = 3) ∧ (h (h v0 4) (-1) = 20) ∧ (0 < h (h v0 4) (-2)) ∧ (h v1 (-1) = 6) ∧ (h (h (h v0 1) 0) (-1) = 20) ∧ (0 ≤ (h (h v0 4) 0)) ∧ ((h (h v0 4) 0) < h (h (h v0 1) 0) (-2)) ∧ ∀ h1, h1 = wr h (h (h v0 1) 0) (h (h v0 4) 0) (h v1 8) → AW G mm_X1_takeIn (1, 6) 39 [(0, vR v0), (1, vR v1), (2, vI 1)] [] h1 Q) ∧ (((h v0 10) = 0) → (h v1 (-1) = 6) ∧ Runs G mm_X1_answer [vR v0, vI 3, vI (h v1 3), vI 0] h (fun r h' => AW G mm_X1_takeIn (1, 6) 17 [] (r.toList ++ []) h' Q))) : Runs G mm_X1_takeIn [vR v0, vR v1] h Q := Runs.of (by decide +kernel) (Nat.le_of_ble_eq_true rfl) (sg_X1_takeIn_0 (b := (1, 6)) k)
set_option maxRecDepth 20000 in
theorem sg_X1_takeIn_39 {G : GG} {b : Nat × Nat} {Q : Option VV → Hp → Prop} {v0 v1 v2 : Int} {h : Hp} (k : (h v0 (-1) = 2) ∧ (((h v0 10) ≤ v2) → (inI ((h v0 10) - 1)) ∧ ∀ h1, h1 = wr h v0 10 ((h v0 10) - 1) → (inI (h1 0 0 + 1)) ∧ (1 ≤ b.1) ∧ (6 ≤ b.2) ∧ ∀ a9, a9 = h1 0 0 + 1 → ∀ h2, h2 = nw h1 5 0 → (h2 v1 (-1) = 6) ∧ Runs G mm_X4_init [vR a9, vI (h v0 0), vI 5, vI (h2 v1 3), vI 0, vI (h2 v1 8)] h2 (fun r h' => AW G mm_X1_takeIn (b.1 - 1, b.2 - 6) 102 [] (r.toList ++ [vR a9, vR (h v0 1)]) h' Q)) ∧ ((¬ ((h v0 10) ≤ v2)) → (inI (v2 - 1)) ∧ (h (h v0 4) (-1) = 20) ∧ (0 ≤ v2) ∧ (v2 < h (h v0 4) (-2)) ∧ (0 ≤ (v2 - 1)) ∧ ((v2 - 1) < h (h v0 4) (-2)) ∧ ∀ h1, h1 = wr h (h v0 4) (v2 - 1) (h (h v0 4) v2) → (inI (v2 + 1)) ∧ AW G mm_X1_takeIn b 39 [(0, vR v0), (1, vR v1), (2, vI (v2 + 1))] [] h1 Q)) : AW G mm_X1_takeIn b 39 [(0, vR v0), (1, vR v1), (2, vI v2)] [] h Q := by
  refine aw_iload_n 2 dX1_takeIn_39 rfl rfl ?_
  refine aw_aload_n 0 dX1_takeIn_40 rfl rfl ?_
  obtain ⟨o1, k⟩ := k
  refine aw_getI dX1_takeIn_41 fl_X1_41 rfl o1 (x := (h v0 10)) rfl ?_
  refine aw_icmp_ge (tgt := 67) dX1_takeIn_44 (by decide) (fun hc => ?_) (fun hc => ?_)
  · have k := k.1 hc
    refine aw_aload_n 0 dX1_takeIn_67 rfl rfl ?_
    refine aw_dup dX1_takeIn_68 rfl ?_
    refine aw_getI dX1_takeIn_69 fl_X1_41 rfl o1 (x := (h v0 10)) rfl ?_
    refine aw_iconst dX1_takeIn_72 ⟨by decide, by decide⟩ ?_
    obtain ⟨o2, k⟩ := k
    refine aw_isub dX1_takeIn_73 o2 ?_
    refine aw_putI dX1_takeIn_74 fl_X1_41 (fun q hq hf => by cases hq; cases hf) rfl rfl o1 ?_
    refine aw_hp (fun h1 e3 => ?_)
    have k := k h1 e3
    refine aw_aload_n 0 dX1_takeIn_77 rfl rfl ?_
    have q4 := sh_w e3 (by decide) o1
    refine aw_getR dX1_takeIn_78 fl_X1_63 rfl q4 (x := (h v0 1)) (rd_k e3 1 (by decide)) ?_
    refine aw_use (fun _ _ oh5 => ?_)
    obtain ⟨o6, k⟩ := k
    obtain ⟨o7, k⟩ := k
    obtain ⟨o8, k⟩ := k
    refine aw_new 4 nl_X1_172 dX1_takeIn_81 o6 o7 o8 ?_
    refine aw_hq (fun a9 e10 h2 e11 => ?_)
    have k := k a9 e10 h2 e11
    have q12 := sh_f e11 e10
    refine aw_dup dX1_takeIn_84 rfl ?_
    refine aw_aload_n 0 dX1_takeIn_85 rfl rfl ?_
    have q13 := sh_n e11 oh5 q4 (by decide)
    refine aw_getI dX1_takeIn_86 fl_X1_60 rfl q13 (x := (h v0 0)) ((rd_n e11 oh5 q4 (by decide) 0).trans (rd_k e3 0 (by decide))) ?_
    refine aw_iconst dX1_takeIn_89 ⟨by decide, by decide⟩ ?_
    refine aw_aload_n 1 dX1_takeIn_90 rfl rfl ?_
    obtain ⟨o14, k⟩ := k
    refine aw_getI dX1_takeIn_91 fl_X1_142 rfl o14 (x := (h2 v1 3)) rfl ?_
    refine aw_iconst dX1_takeIn_94 ⟨by decide, by decide⟩ ?_
    refine aw_aload_n 1 dX1_takeIn_95 rfl rfl ?_
    refine aw_getI dX1_takeIn_96 fl_X1_171 rfl o14 (x := (h2 v1 8)) rfl ?_
    refine aw_use (fun _ _ oz15 => ?_)
    refine aw_callI (M' := mm_X4_init) [vI (h v0 0), vI 5, vI (h2 v1 3), vI 0, vI (h2 v1 8)] [vR a9, vR (h v0 1)] lk_X1_174 dX1_takeIn_99 rfl (Nat.le_of_ble_eq_true rfl) ⟨by decide, by decide, Nat.zero_le _, Nat.zero_le _⟩ (nz_s oz15 q12 (by decide)) ?_
    exact k.mono (fun _ _ z => aw_sub [] rfl z)
  · have k := k.2 hc
    refine aw_aload_n 0 dX1_takeIn_47 rfl rfl ?_
    refine aw_getR dX1_takeIn_48 fl_X1_17 rfl o1 (x := (h v0 4)) rfl ?_
    refine aw_iload_n 2 dX1_takeIn_51 rfl rfl ?_
    refine aw_iconst dX1_takeIn_52 ⟨by decide, by decide⟩ ?_
    obtain ⟨o16, k⟩ := k
    refine aw_isub dX1_takeIn_53 o16 ?_
    refine aw_aload_n 0 dX1_takeIn_54 rfl rfl ?_
    refine aw_getR dX1_takeIn_55 fl_X1_17 rfl o1 (x := (h v0 4)) rfl ?_
    refine aw_iload_n 2 dX1_takeIn_58 rfl rfl ?_
    obtain ⟨o17, k⟩ := k
    obtain ⟨o18, k⟩ := k
    obtain ⟨o19, k⟩ := k
    refine aw_iald dX1_takeIn_59 o17 o18 o19 (x := (h (h v0 4) v2)) rfl ?_
    obtain ⟨o20, k⟩ := k
    obtain ⟨o21, k⟩ := k
    refine aw_iast dX1_takeIn_60 o17 o20 o21 ?_
    refine aw_hp (fun h1 e22 => ?_)
    have k := k h1 e22
    obtain ⟨o23, k⟩ := k
    refine aw_iinc 2 dX1_takeIn_61 rfl o23 (by decide) ?_
    refine aw_goto (tgt := 39) dX1_takeIn_64 (by decide) ?_
    exact aw_sub [1, 2, 0] rfl k
set_option maxRecDepth 20000 in
theorem sg_X1_takeIn_17 {G : GG} {b : Nat × Nat} {Q : Option VV → Hp → Prop} {h : Hp} (k : Q (some (vI (-1))) h) : AW G mm_X1_takeIn b 17 [] [] h Q := by
  refine aw_iconst dX1_takeIn_17 ⟨by decide, by decide⟩ ?_
  exact aw_iret dX1_takeIn_18 rfl k
set_option maxRecDepth 20000 in
theorem sg_X1_takeIn_102 {G : GG} {b : Nat × Nat} {Q : Option VV → Hp → Prop} {s0 s1 : Int} {h : Hp} (k : (h s1 (-1) = 3) ∧ Runs G mm_X2_pushNotice [vR s1, vR s0] h (fun r h' => AW G mm_X1_takeIn b 105 [] (r.toList ++ []) h' Q)) : AW G mm_X1_takeIn b 102 [] [vR s0, vR s1] h Q := by
  obtain ⟨o1, k⟩ := k
  refine aw_callV (M' := mm_X2_pushNotice) 2 [vR s0] [] lk_X1_177 ⟨_, rfl, rfl⟩ dX1_takeIn_102 rfl (Nat.le_of_ble_eq_true rfl) ⟨by decide, by decide, Nat.zero_le _, Nat.zero_le _⟩ o1 ?_
  exact k
set_option maxRecDepth 20000 in
theorem sg_X1_takeIn_105 {G : GG} {b : Nat × Nat} {Q : Option VV → Hp → Prop} {h : Hp} (k : Q (some (vI 0)) h) : AW G mm_X1_takeIn b 105 [] [] h Q := by
  refine aw_iconst dX1_takeIn_105 ⟨by decide, by decide⟩ ?_
  exact aw_iret dX1_takeIn_106 rfl k
set_option maxRecDepth 20000 in
theorem sg_X1_tryAgain_0 {G : GG} {b : Nat × Nat} {Q : Option VV → Hp → Prop} {v0 : Int} {h : Hp} (k : (h v0 (-1) = 2) ∧ ((¬ (h v0 8) = 0) → (inI ((h v0 11) + 1)) ∧ ∀ h1, h1 = wr h v0 11 ((h v0 11) + 1) → ((((h v0 11) + 1) < 4) → AW G mm_X1_tryAgain b 39 [(0, vR v0), (1, vI 0)] [] h1 Q) ∧ ((¬ (((h v0 11) + 1) < 4)) → (1 ≤ b.1) ∧ (6 ≤ b.2) ∧ Runs G mm_X1_finishOldest [vR v0, vI 3, vI 0] h1 (fun r h' => AW G mm_X1_tryAgain (b.1 - 1, b.2 - 6) 32 [(0, vR v0)] (r.toList ++ []) h' Q))) ∧ (((h v0 8) = 0) → Q none h)) : AW G mm_X1_tryAgain b 0 [(0, vR v0)] [] h Q := by
  refine aw_aload_n 0 dX1_tryAgain_0 rfl rfl ?_
  obtain ⟨o1, k⟩ := k
  refine aw_getI dX1_tryAgain_1 fl_X1_35 rfl o1 (x := (h v0 8)) rfl ?_
  refine aw_if_ne (tgt := 8) dX1_tryAgain_4 (by decide) (fun hc => ?_) (fun hc => ?_)
  · have k := k.1 hc
    refine aw_aload_n 0 dX1_tryAgain_8 rfl rfl ?_
    refine aw_dup dX1_tryAgain_9 rfl ?_
    refine aw_getI dX1_tryAgain_10 fl_X1_44 rfl o1 (x := (h v0 11)) rfl ?_
    refine aw_iconst dX1_tryAgain_13 ⟨by decide, by decide⟩ ?_
    obtain ⟨o2, k⟩ := k
    refine aw_iadd dX1_tryAgain_14 o2 ?_
    refine aw_putI dX1_tryAgain_15 fl_X1_44 (fun q hq hf => by cases hq; cases hf) rfl rfl o1 ?_
    refine aw_hp (fun h1 e3 => ?_)
    have k := k h1 e3
    refine aw_aload_n 0 dX1_tryAgain_18 rfl rfl ?_
    have q4 := sh_w e3 (by decide) o1
    refine aw_getI dX1_tryAgain_19 fl_X1_44 rfl q4 (x := ((h v0 11) + 1)) (rd_e e3) ?_
    refine aw_iconst dX1_tryAgain_22 ⟨by decide, by decide⟩ ?_
    refine aw_icmp_lt (tgt := 37) dX1_tryAgain_23 (by decide) (fun hc => ?_) (fun hc => ?_)
    · have k := k.1 hc
      refine aw_iconst dX1_tryAgain_37 ⟨by decide, by decide⟩ ?_
      refine aw_istore_n dX1_tryAgain_38 rfl (by decide) ?_
      exact aw_sub [1, 0] rfl k
    · have k := k.2 hc
      refine aw_aload_n 0 dX1_tryAgain_26 rfl rfl ?_
      refine aw_iconst dX1_tryAgain_27 ⟨by decide, by decide⟩ ?_
      refine aw_iconst dX1_tryAgain_28 ⟨by decide, by decide⟩ ?_
      obtain ⟨o5, k⟩ := k
      obtain ⟨o6, k⟩ := k
      refine aw_callV (M' := mm_X1_finishOldest) 1 [vI 3, vI 0] [] lk_X1_236 ⟨_, rfl, rfl⟩ dX1_tryAgain_29 rfl (Nat.le_of_ble_eq_true rfl) ⟨by decide, by decide, o5, o6⟩ q4 ?_
      exact k
  · have k := k.2 hc
    exact aw_vret dX1_tryAgain_7 rfl k
theorem rn_X1_tryAgain {G : GG} {Q : Option VV → Hp → Prop} {v0 : Int} {h : Hp} (k : (h v0 (-1) = 2) ∧ ((¬ (h v0 8) = 0) → (inI ((h v0 11) + 1)) ∧ ∀ h1, h1 = wr h v0 11 ((h v0 11) + 1) → ((((h v0 11) + 1) < 4) → AW G mm_X1_tryAgain (8, 48) 39 [(0, vR v0), (1, vI 0)] [] h1 Q) ∧ ((¬ (((h v0 11) + 1) < 4)) → (1 ≤ 8) ∧ (6 ≤ 48) ∧ Runs G mm_X1_finishOldest [vR v0, vI 3, vI 0] h1 (fun r h' => AW G mm_X1_tryAgain (8 - 1, 48 - 6) 32 [(0, vR v0)] (r.toList ++ []) h' Q))) ∧ (((h v0 8) = 0) → Q none h)) : Runs G mm_X1_tryAgain [vR v0] h Q := Runs.of (by decide +kernel) (Nat.le_of_ble_eq_true rfl) (sg_X1_tryAgain_0 (b := (8, 48)) k)
set_option maxRecDepth 20000 in
theorem sg_X1_tryAgain_39 {G : GG} {b : Nat × Nat} {Q : Option VV → Hp → Prop} {v0 v1 : Int} {h : Hp} (k : (h v0 (-1) = 2) ∧ (((h v0 8) ≤ v1) → Q none h) ∧ ((¬ ((h v0 8) ≤ v1)) → (h (h v0 3) (-1) = 38) ∧ (0 ≤ v1) ∧ (v1 < h (h v0 3) (-2)) ∧ Runs G mm_X1_request [vR v0, vR (h (h v0 3) v1)] h (fun r h' => AW G mm_X1_tryAgain b 57 [(0, vR v0), (1, vI v1)] (r.toList ++ []) h' Q))) : AW G mm_X1_tryAgain b 39 [(0, vR v0), (1, vI v1)] [] h Q := by
  refine aw_iload_n 1 dX1_tryAgain_39 rfl rfl ?_
  refine aw_aload_n 0 dX1_tryAgain_40 rfl rfl ?_
  obtain ⟨o1, k⟩ := k
  refine aw_getI dX1_tryAgain_41 fl_X1_35 rfl o1 (x := (h v0 8)) rfl ?_
  refine aw_icmp_ge (tgt := 63) dX1_tryAgain_44 (by decide) (fun hc => ?_) (fun hc => ?_)
  · have k := k.1 hc
    exact aw_vret dX1_tryAgain_63 rfl k
  · have k := k.2 hc
    refine aw_aload_n 0 dX1_tryAgain_47 rfl rfl ?_
    refine aw_aload_n 0 dX1_tryAgain_48 rfl rfl ?_
    refine aw_getR dX1_tryAgain_49 fl_X1_11 rfl o1 (x := (h v0 3)) rfl ?_
    refine aw_iload_n 1 dX1_tryAgain_52 rfl rfl ?_
    obtain ⟨o2, k⟩ := k
    obtain ⟨o3, k⟩ := k
    obtain ⟨o4, k⟩ := k
    refine aw_aald 7 8 aq_8 dX1_tryAgain_53 o2 o3 o4 (x := (h (h v0 3) v1)) rfl ?_
    refine aw_callV (M' := mm_X1_request) 1 [vR (h (h v0 3) v1)] [] lk_X1_112 ⟨_, rfl, rfl⟩ dX1_tryAgain_54 rfl (Nat.le_of_ble_eq_true rfl) ⟨by decide, by decide, Nat.zero_le _, Nat.zero_le _⟩ o1 ?_
    exact k
set_option maxRecDepth 20000 in
theorem sg_X1_tryAgain_32 {G : GG} {b : Nat × Nat} {Q : Option VV → Hp → Prop} {v0 : Int} {h : Hp} (k : (7 ≤ b.1) ∧ (42 ≤ b.2) ∧ (h v0 (-1) = 2) ∧ Runs G mm_X1_breakUp [vR v0] h (fun r h' => AW G mm_X1_tryAgain (b.1 - 7, b.2 - 42) 36 [] (r.toList ++ []) h' Q)) : AW G mm_X1_tryAgain b 32 [(0, vR v0)] [] h Q := by
  refine aw_aload_n 0 dX1_tryAgain_32 rfl rfl ?_
  obtain ⟨o1, k⟩ := k
  obtain ⟨o2, k⟩ := k
  obtain ⟨o3, k⟩ := k
  refine aw_callV (M' := mm_X1_breakUp) 1 [] [] lk_X1_184 ⟨_, rfl, rfl⟩ dX1_tryAgain_33 rfl (Nat.le_of_ble_eq_true rfl) ⟨by decide, by decide, o1, o2⟩ o3 ?_
  exact k.mono (fun _ _ z => aw_sub [] rfl z)
set_option maxRecDepth 20000 in
theorem sg_X1_tryAgain_57 {G : GG} {b : Nat × Nat} {Q : Option VV → Hp → Prop} {v0 v1 : Int} {h : Hp} (k : (inI (v1 + 1)) ∧ AW G mm_X1_tryAgain b 39 [(0, vR v0), (1, vI (v1 + 1))] [] h Q) : AW G mm_X1_tryAgain b 57 [(0, vR v0), (1, vI v1)] [] h Q := by
  obtain ⟨o1, k⟩ := k
  refine aw_iinc 1 dX1_tryAgain_57 rfl o1 (by decide) ?_
  refine aw_goto (tgt := 39) dX1_tryAgain_60 (by decide) ?_
  exact aw_sub [1, 0] rfl k
set_option maxRecDepth 20000 in
theorem sg_X1_tryAgain_36 {G : GG} {b : Nat × Nat} {Q : Option VV → Hp → Prop} {h : Hp} (k : Q none h) : AW G mm_X1_tryAgain b 36 [] [] h Q := by
  exact aw_vret dX1_tryAgain_36 rfl k
