/-! printed by writeseg.py: segments of methods -/
set_option maxRecDepth 20000 in
theorem sg_X7_clearLine_0 {G : GG} {b : Nat × Nat} {Q : Option VV → Hp → Prop} {v0 v1 : Int} {h : Hp} (k : (h v0 (-1) = 8) ∧ (inI ((h v0 3) - 1)) ∧ AW G mm_X7_clearLine b 7 [(0, vR v0), (1, vI v1), (2, vI ((h v0 3) - 1))] [] h Q) : AW G mm_X7_clearLine b 0 [(0, vR v0), (1, vI v1)] [] h Q := by
  refine aw_aload_n 0 dX7_clearLine_0 rfl rfl ?_
  obtain ⟨o1, k⟩ := k
  refine aw_getI dX7_clearLine_1 fl_X7_26 rfl o1 (x := (h v0 3)) rfl ?_
  refine aw_iconst dX7_clearLine_4 ⟨by decide, by decide⟩ ?_
  obtain ⟨o2, k⟩ := k
  refine aw_isub dX7_clearLine_5 o2 ?_
  refine aw_istore_n dX7_clearLine_6 rfl (by decide) ?_
  exact aw_sub [1, 2, 0] rfl k
theorem rn_X7_clearLine {G : GG} {Q : Option VV → Hp → Prop} {v0 v1 : Int} {h : Hp} (k : (h v0 (-1) = 8) ∧ (inI ((h v0 3) - 1)) ∧ AW G mm_X7_clearLine (0, 0) 7 [(0, vR v0), (1, vI v1), (2, vI ((h v0 3) - 1))] [] h Q) : Runs G mm_X7_clearLine [vR v0, vI v1] h Q := Runs.of (by decide +kernel) (Nat.le_of_ble_eq_true rfl) (sg_X7_clearLine_0 (b := (0, 0)) k)
set_option maxRecDepth 20000 in
theorem sg_X7_clearLine_7 {G : GG} {b : Nat × Nat} {Q : Option VV → Hp → Prop} {v0 v1 v2 : Int} {h : Hp} (k : ((v2 < 0) → Q none h) ∧ ((¬ (v2 < 0)) → (h v0 (-1) = 8) ∧ (h (h v0 0) (-1) = 35) ∧ (0 ≤ v2) ∧ (v2 < h (h v0 0) (-2)) ∧ (h (h (h v0 0) v2) (-1) = 6) ∧ Runs G mm_X9_lineOf [vI (h (h (h v0 0) v2) 0)] h (fun r h' => AW G mm_X7_clearLine b 23 [(0, vR v0), (1, vI v1), (2, vI v2)] (r.toList ++ []) h' Q))) : AW G mm_X7_clearLine b 7 [(0, vR v0), (1, vI v1), (2, vI v2)] [] h Q := by
  refine aw_iload_n 2 dX7_clearLine_7 rfl rfl ?_
  refine aw_if_lt (tgt := 38) dX7_clearLine_8 (by decide) (fun hc => ?_) (fun hc => ?_)
  · have k := k.1 hc
    exact aw_vret dX7_clearLine_38 rfl k
  · have k := k.2 hc
    refine aw_aload_n 0 dX7_clearLine_11 rfl rfl ?_
    obtain ⟨o1, k⟩ := k
    refine aw_getR dX7_clearLine_12 fl_X7_11 rfl o1 (x := (h v0 0)) rfl ?_
    refine aw_iload_n 2 dX7_clearLine_15 rfl rfl ?_
    obtain ⟨o2, k⟩ := k
    obtain ⟨o3, k⟩ := k
    obtain ⟨o4, k⟩ := k
    refine aw_aald 6 5 aq_5 dX7_clearLine_16 o2 o3 o4 (x := (h (h v0 0) v2)) rfl ?_
    obtain ⟨o5, k⟩ := k
    refine aw_getI dX7_clearLine_17 fl_X7_36 rfl o5 (x := (h (h (h v0 0) v2) 0)) rfl ?_
    refine aw_callSN (M' := mm_X9_lineOf) [vI (h (h (h v0 0) v2) 0)] [] lk_X7_39 dX7_clearLine_20 rfl (Nat.le_of_ble_eq_true rfl) ⟨by decide, by decide, Nat.zero_le _, Nat.zero_le _⟩ ?_
    exact k
set_option maxRecDepth 20000 in
theorem sg_X7_clearLine_23 {G : GG} {b : Nat × Nat} {Q : Option VV → Hp → Prop} {v0 v1 v2 s0 : Int} {h : Hp} (k : ((¬ s0 = v1) → (inI (v2 + (-1))) ∧ AW G mm_X7_clearLine b 7 [(0, vR v0), (1, vI v1), (2, vI (v2 + (-1)))] [] h Q) ∧ ((s0 = v1) → (h v0 (-1) = 8) ∧ Runs G mm_X7_removeAt [vR v0, vI v2] h (fun r h' => AW G mm_X7_clearLine b 32 [(0, vR v0), (1, vI v1), (2, vI v2)] (r.toList ++ []) h' Q))) : AW G mm_X7_clearLine b 23 [(0, vR v0), (1, vI v1), (2, vI v2)] [vI s0] h Q := by
  refine aw_iload_n 1 dX7_clearLine_23 rfl rfl ?_
  refine aw_icmp_ne (tgt := 32) dX7_clearLine_24 (by decide) (fun hc => ?_) (fun hc => ?_)
  · have k := k.1 hc
    obtain ⟨o1, k⟩ := k
    refine aw_iinc 2 dX7_clearLine_32 rfl o1 (by decide) ?_
    refine aw_goto (tgt := 7) dX7_clearLine_35 (by decide) ?_
    exact aw_sub [1, 2, 0] rfl k
  · have k := k.2 hc
    refine aw_aload_n 0 dX7_clearLine_27 rfl rfl ?_
    refine aw_iload_n 2 dX7_clearLine_28 rfl rfl ?_
    obtain ⟨o2, k⟩ := k
    refine aw_callV (M' := mm_X7_removeAt) 7 [vI v2] [] lk_X7_58 ⟨_, rfl, rfl⟩ dX7_clearLine_29 rfl (Nat.le_of_ble_eq_true rfl) ⟨by decide, by decide, Nat.zero_le _, Nat.zero_le _⟩ o2 ?_
    exact k
set_option maxRecDepth 20000 in
theorem sg_X7_clearLine_32 {G : GG} {b : Nat × Nat} {Q : Option VV → Hp → Prop} {v0 v1 v2 : Int} {h : Hp} (k : (inI (v2 + (-1))) ∧ AW G mm_X7_clearLine b 7 [(0, vR v0), (1, vI v1), (2, vI (v2 + (-1)))] [] h Q) : AW G mm_X7_clearLine b 32 [(0, vR v0), (1, vI v1), (2, vI v2)] [] h Q := by
  obtain ⟨o1, k⟩ := k
  refine aw_iinc 2 dX7_clearLine_32 rfl o1 (by decide) ?_
  refine aw_goto (tgt := 7) dX7_clearLine_35 (by decide) ?_
  exact aw_sub [1, 2, 0] rfl k
set_option maxRecDepth 20000 in
theorem sg_X7_firstPlace_0 {G : GG} {b : Nat × Nat} {Q : Option VV → Hp → Prop} {v0 : Int} {h : Hp} (k : AW G mm_X7_firstPlace b 4 [(0, vR v0), (1, vI (-1)), (2, vI 0)] [] h Q) : AW G mm_X7_firstPlace b 0 [(0, vR v0)] [] h Q := by
  refine aw_iconst dX7_firstPlace_0 ⟨by decide, by decide⟩ ?_
  refine aw_istore_n dX7_firstPlace_1 rfl (by decide) ?_
  refine aw_iconst dX7_firstPlace_2 ⟨by decide, by decide⟩ ?_
  refine aw_istore_n dX7_firstPlace_3 rfl (by decide) ?_
  exact aw_sub [2, 1, 0] rfl k
theorem rn_X7_firstPlace {G : GG} {Q : Option VV → Hp → Prop} {v0 : Int} {h : Hp} (k : AW G mm_X7_firstPlace (0, 0) 4 [(0, vR v0), (1, vI (-1)), (2, vI 0)] [] h Q) : Runs G mm_X7_firstPlace [vR v0] h Q := Runs.of (by decide +kernel) (Nat.le_of_ble_eq_true rfl) (sg_X7_firstPlace_0 (b := (0, 0)) k)
set_option maxRecDepth 20000 in
theorem sg_X7_firstPlace_4 {G : GG} {b : Nat × Nat} {Q : Option VV → Hp → Prop} {v0 v1 v2 : Int} {h : Hp} (k : (h v0 (-1) = 8) ∧ (((h v0 3) ≤ v2) → Q (some (vI v1)) h) ∧ ((¬ ((h v0 3) ≤ v2)) → ((v1 = (-1)) → (inI (v2 + 1)) ∧ AW G mm_X7_firstPlace b 4 [(0, vR v0), (1, vI v2), (2, vI (v2 + 1))] [] h Q) ∧ ((¬ (v1 = (-1))) → (h (h v0 0) (-1) = 35) ∧ (0 ≤ v2) ∧ (v2 < h (h v0 0) (-2)) ∧ (h (h (h v0 0) v2) (-1) = 6) ∧ (0 ≤ v1) ∧ (v1 < h (h v0 0) (-2)) ∧ (h (h (h v0 0) v1) (-1) = 6) ∧ (((h (h (h v0 0) v1) 1) ≤ (h (h (h v0 0) v2) 1)) → (inI (v2 + 1)) ∧ AW G mm_X7_firstPlace b 4 [(0, vR v0), (1, vI v1), (2, vI (v2 + 1))] [] h Q) ∧ ((¬ ((h (h (h v0 0) v1) 1) ≤ (h (h (h v0 0) v2) 1))) → (inI (v2 + 1)) ∧ AW G mm_X7_firstPlace b 4 [(0, vR v0), (1, vI v2), (2, vI (v2 + 1))] [] h Q)))) : AW G mm_X7_firstPlace b 4 [(0, vR v0), (1, vI v1), (2, vI v2)] [] h Q := by
  refine aw_iload_n 2 dX7_firstPlace_4 rfl rfl ?_
  refine aw_aload_n 0 dX7_firstPlace_5 rfl rfl ?_
  obtain ⟨o1, k⟩ := k
  refine aw_getI dX7_firstPlace_6 fl_X7_26 rfl o1 (x := (h v0 3)) rfl ?_
  refine aw_icmp_ge (tgt := 46) dX7_firstPlace_9 (by decide) (fun hc => ?_) (fun hc => ?_)
  · have k := k.1 hc
    refine aw_iload_n 1 dX7_firstPlace_46 rfl rfl ?_
    exact aw_iret dX7_firstPlace_47 rfl k
  · have k := k.2 hc
    refine aw_iload_n 1 dX7_firstPlace_12 rfl rfl ?_
    refine aw_iconst dX7_firstPlace_13 ⟨by decide, by decide⟩ ?_
    refine aw_icmp_eq (tgt := 38) dX7_firstPlace_14 (by decide) (fun hc => ?_) (fun hc => ?_)
    · have k := k.1 hc
      refine aw_iload_n 2 dX7_firstPlace_38 rfl rfl ?_
      refine aw_istore_n dX7_firstPlace_39 rfl (by decide) ?_
      obtain ⟨o2, k⟩ := k
      refine aw_iinc 2 dX7_firstPlace_40 rfl o2 (by decide) ?_
      refine aw_goto (tgt := 4) dX7_firstPlace_43 (by decide) ?_
      exact aw_sub [2, 1, 0] rfl k
    · have k := k.2 hc
      refine aw_aload_n 0 dX7_firstPlace_17 rfl rfl ?_
      refine aw_getR dX7_firstPlace_18 fl_X7_11 rfl o1 (x := (h v0 0)) rfl ?_
      refine aw_iload_n 2 dX7_firstPlace_21 rfl rfl ?_
      obtain ⟨o3, k⟩ := k
      obtain ⟨o4, k⟩ := k
      obtain ⟨o5, k⟩ := k
      refine aw_aald 6 5 aq_5 dX7_firstPlace_22 o3 o4 o5 (x := (h (h v0 0) v2)) rfl ?_
      obtain ⟨o6, k⟩ := k
      refine aw_getI dX7_firstPlace_23 fl_X7_43 rfl o6 (x := (h (h (h v0 0) v2) 1)) rfl ?_
      refine aw_aload_n 0 dX7_firstPlace_26 rfl rfl ?_
      refine aw_getR dX7_firstPlace_27 fl_X7_11 rfl o1 (x := (h v0 0)) rfl ?_
      refine aw_iload_n 1 dX7_firstPlace_30 rfl rfl ?_
      obtain ⟨o7, k⟩ := k
      obtain ⟨o8, k⟩ := k
      refine aw_aald 6 5 aq_5 dX7_firstPlace_31 o3 o7 o8 (x := (h (h v0 0) v1)) rfl ?_
      obtain ⟨o9, k⟩ := k
      refine aw_getI dX7_firstPlace_32 fl_X7_43 rfl o9 (x := (h (h (h v0 0) v1) 1)) rfl ?_
      refine aw_icmp_ge (tgt := 40) dX7_firstPlace_35 (by decide) (fun hc => ?_) (fun hc => ?_)
      · have k := k.1 hc
        obtain ⟨o10, k⟩ := k
        refine aw_iinc 2 dX7_firstPlace_40 rfl o10 (by decide) ?_
        refine aw_goto (tgt := 4) dX7_firstPlace_43 (by decide) ?_
        exact aw_sub [1, 2, 0] rfl k
      · have k := k.2 hc
        refine aw_iload_n 2 dX7_firstPlace_38 rfl rfl ?_
        refine aw_istore_n dX7_firstPlace_39 rfl (by decide) ?_
        obtain ⟨o11, k⟩ := k
        refine aw_iinc 2 dX7_firstPlace_40 rfl o11 (by decide) ?_
        refine aw_goto (tgt := 4) dX7_firstPlace_43 (by decide) ?_
        exact aw_sub [2, 1, 0] rfl k
set_option maxRecDepth 20000 in
theorem sg_X7_init_0 {G : GG} {b : Nat × Nat} {Q : Option VV → Hp → Prop} {v0 : Int} {h : Hp} (k : (h v0 (-1) = 8) ∧ (inI (h 0 0 + 1)) ∧ (1 ≤ b.1) ∧ (24 ≤ b.2) ∧ ∀ a7, a7 = h 0 0 + 1 → ∀ h1, h1 = nw h 35 24 → ∀ h2, h2 = wr h1 v0 0 a7 → (inI (h2 0 0 + 1)) ∧ (1 ≤ b.1 - 1) ∧ (10 ≤ b.2 - 24) ∧ ∀ a17, a17 = h2 0 0 + 1 → ∀ h3, h3 = nw h2 6 0 → Runs G mm_X5_init [vR a17] h3 (fun r h' => AW G mm_X7_init (b.1 - 1 - 1, b.2 - 24 - 10) 21 [(0, vR v0)] (r.toList ++ [vR a17, vR v0]) h' Q)) : AW G mm_X7_init b 0 [(0, vR v0)] [] h Q := by
  refine aw_aload_n 0 dX7_init_0 rfl rfl ?_
  obtain ⟨o1, k⟩ := k
  refine aw_use (fun _ _ oz2 => ?_)
  refine aw_obj lo_X7_3 dX7_init_1 (nz_s oz2 o1 (by decide)) ⟨by decide, Nat.le_of_ble_eq_true rfl⟩ ?_
  refine aw_aload_n 0 dX7_init_4 rfl rfl ?_
  refine aw_bipush dX7_init_5 ⟨by decide, by decide⟩ (by decide) ?_
  refine aw_use (fun _ _ oh3 => ?_)
  obtain ⟨o4, k⟩ := k
  obtain ⟨o5, k⟩ := k
  obtain ⟨o6, k⟩ := k
  refine aw_anew 6 5 aq_5 al_X7_9 dX7_init_7 (by decide) (by decide) o4 o5 o6 ?_
  refine aw_hq (fun a7 e8 h1 e9 => ?_)
  have k := k a7 e8 h1 e9
  have q10 := sh_f e9 e8
  have q11 := sh_n e9 oh3 o1 (by decide)
  refine aw_putR dX7_init_10 fl_X7_11 (fun q hq _ => by cases hq; exact ⟨rfl, rfl⟩) rfl rfl q11 ?_
  refine aw_hp (fun h2 e12 => ?_)
  have k := k h2 e12
  refine aw_aload_n 0 dX7_init_13 rfl rfl ?_
  refine aw_use (fun _ _ oh13 => ?_)
  obtain ⟨o14, k⟩ := k
  obtain ⟨o15, k⟩ := k
  obtain ⟨o16, k⟩ := k
  refine aw_new 5 nl_X7_9 dX7_init_14 o14 o15 o16 ?_
  refine aw_hq (fun a17 e18 h3 e19 => ?_)
  have k := k a17 e18 h3 e19
  have q20 := sh_f e19 e18
  refine aw_dup dX7_init_17 rfl ?_
  refine aw_use (fun _ _ oz21 => ?_)
  refine aw_callIN (M' := mm_X5_init) [] [vR a17, vR v0] lk_X7_17 dX7_init_18 rfl (Nat.le_of_ble_eq_true rfl) ⟨by decide, by decide, Nat.zero_le _, Nat.zero_le _⟩ (nz_s oz21 q20 (by decide)) ?_
  exact k
set_option maxRecDepth 20000 in
theorem sg_X7_init_21 {G : GG} {b : Nat × Nat} {Q : Option VV → Hp → Prop} {v0 s0 s1 : Int} {h : Hp} (k : (h s1 (-1) = 8) ∧ ∀ h1, h1 = wr h s1 1 s0 → (inI (h1 0 0 + 1)) ∧ (1 ≤ b.1) ∧ (2 ≤ b.2) ∧ ∀ a7, a7 = h1 0 0 + 1 → ∀ h2, h2 = nw h1 20 2 → (h2 v0 (-1) = 8) ∧ ∀ h3, h3 = wr h2 v0 2 a7 → ∀ h4, h4 = wr h3 v0 3 0 → ∀ h5, h5 = wr h4 v0 4 0 → ∀ h6, h6 = wr h5 v0 5 0 → AW G mm_X7_init (b.1 - 1, b.2 - 2) 48 [(0, vR v0), (1, vI 0)] [] h6 Q) : AW G mm_X7_init b 21 [(0, vR v0)] [vR s0, vR s1] h Q := by
  obtain ⟨o1, k⟩ := k
  refine aw_putR dX7_init_21 fl_X7_18 (fun q hq _ => by cases hq; exact ⟨rfl, rfl⟩) rfl rfl o1 ?_
  refine aw_hp (fun h1 e2 => ?_)
  have k := k h1 e2
  refine aw_aload_n 0 dX7_init_24 rfl rfl ?_
  refine aw_iconst dX7_init_25 ⟨by decide, by decide⟩ ?_
  refine aw_use (fun _ _ oh3 => ?_)
  obtain ⟨o4, k⟩ := k
  obtain ⟨o5, k⟩ := k
  obtain ⟨o6, k⟩ := k
  refine aw_newa na_int dX7_init_26 (by decide) (by decide) o4 o5 o6 ?_
  refine aw_hq (fun a7 e8 h2 e9 => ?_)
  have k := k a7 e8 h2 e9
  have q10 := sh_f e9 e8
  obtain ⟨o11, k⟩ := k
  refine aw_putR dX7_init_28 fl_X7_22 (fun q hq _ => by cases hq; exact ⟨rfl, rfl⟩) rfl rfl o11 ?_
  refine aw_hp (fun h3 e12 => ?_)
  have k := k h3 e12
  refine aw_aload_n 0 dX7_init_31 rfl rfl ?_
  refine aw_iconst dX7_init_32 ⟨by decide, by decide⟩ ?_
  have q13 := sh_w e12 (by decide) o11
  refine aw_putI dX7_init_33 fl_X7_26 (fun q hq hf => by cases hq; cases hf) rfl rfl q13 ?_
  refine aw_hp (fun h4 e14 => ?_)
  have k := k h4 e14
  refine aw_aload_n 0 dX7_init_36 rfl rfl ?_
  refine aw_iconst dX7_init_37 ⟨by decide, by decide⟩ ?_
  have q15 := sh_w e14 (by decide) q13
  refine aw_putI dX7_init_38 fl_X7_30 (fun q hq hf => by cases hq; cases hf) rfl rfl q15 ?_
  refine aw_hp (fun h5 e16 => ?_)
  have k := k h5 e16
  refine aw_aload_n 0 dX7_init_41 rfl rfl ?_
  refine aw_iconst dX7_init_42 ⟨by decide, by decide⟩ ?_
  have q17 := sh_w e16 (by decide) q15
  refine aw_putI dX7_init_43 fl_X7_33 (fun q hq hf => by cases hq; cases hf) rfl rfl q17 ?_
  refine aw_hp (fun h6 e18 => ?_)
  have k := k h6 e18
  refine aw_iconst dX7_init_46 ⟨by decide, by decide⟩ ?_
  refine aw_istore_n dX7_init_47 rfl (by decide) ?_
  exact aw_sub [1, 0] rfl k
set_option maxRecDepth 20000 in
theorem sg_X7_init_48 {G : GG} {b : Nat × Nat} {Q : Option VV → Hp → Prop} {v0 v1 : Int} {h : Hp} (k : ((24 ≤ v1) → AW G mm_X7_init b 75 [(0, vR v0), (1, vI 0)] [] h Q) ∧ ((¬ (24 ≤ v1)) → (h v0 (-1) = 8) ∧ (inI (h 0 0 + 1)) ∧ (1 ≤ b.1) ∧ (10 ≤ b.2) ∧ ∀ a6, a6 = h 0 0 + 1 → ∀ h1, h1 = nw h 6 0 → Runs G mm_X5_init [vR a6] h1 (fun r h' => AW G mm_X7_init (b.1 - 1, b.2 - 10) 66 [(0, vR v0), (1, vI v1)] (r.toList ++ [vR a6, vI v1, vR (h v0 0)]) h' Q))) : AW G mm_X7_init b 48 [(0, vR v0), (1, vI v1)] [] h Q := by
  refine aw_iload_n 1 dX7_init_48 rfl rfl ?_
  refine aw_bipush dX7_init_49 ⟨by decide, by decide⟩ (by decide) ?_
  refine aw_icmp_ge (tgt := 73) dX7_init_51 (by decide) (fun hc => ?_) (fun hc => ?_)
  · have k := k.1 hc
    refine aw_iconst dX7_init_73 ⟨by decide, by decide⟩ ?_
    refine aw_istore_n dX7_init_74 rfl (by decide) ?_
    exact aw_sub [1, 0] rfl k
  · have k := k.2 hc
    refine aw_aload_n 0 dX7_init_54 rfl rfl ?_
    obtain ⟨o1, k⟩ := k
    refine aw_getR dX7_init_55 fl_X7_11 rfl o1 (x := (h v0 0)) rfl ?_
    refine aw_iload_n 1 dX7_init_58 rfl rfl ?_
    refine aw_use (fun _ _ oh2 => ?_)
    obtain ⟨o3, k⟩ := k
    obtain ⟨o4, k⟩ := k
    obtain ⟨o5, k⟩ := k
    refine aw_new 5 nl_X7_9 dX7_init_59 o3 o4 o5 ?_
    refine aw_hq (fun a6 e7 h1 e8 => ?_)
    have k := k a6 e7 h1 e8
    have q9 := sh_f e8 e7
    refine aw_dup dX7_init_62 rfl ?_
    refine aw_use (fun _ _ oz10 => ?_)
    refine aw_callIN (M' := mm_X5_init) [] [vR a6, vI v1, vR (h v0 0)] lk_X7_17 dX7_init_63 rfl (Nat.le_of_ble_eq_true rfl) ⟨by decide, by decide, Nat.zero_le _, Nat.zero_le _⟩ (nz_s oz10 q9 (by decide)) ?_
    exact k
set_option maxRecDepth 20000 in
theorem sg_X7_init_75 {G : GG} {b : Nat × Nat} {Q : Option VV → Hp → Prop} {v0 v1 : Int} {h : Hp} (k : ((2 ≤ v1) → Q none h) ∧ ((¬ (2 ≤ v1)) → (h v0 (-1) = 8) ∧ (h (h v0 2) (-1) = 20) ∧ (0 ≤ v1) ∧ (v1 < h (h v0 2) (-2)) ∧ ∀ h1, h1 = wr h (h v0 2) v1 1 → (inI (v1 + 1)) ∧ AW G mm_X7_init b 75 [(0, vR v0), (1, vI (v1 + 1))] [] h1 Q)) : AW G mm_X7_init b 75 [(0, vR v0), (1, vI v1)] [] h Q := by
  refine aw_iload_n 1 dX7_init_75 rfl rfl ?_
  refine aw_iconst dX7_init_76 ⟨by decide, by decide⟩ ?_
  refine aw_icmp_ge (tgt := 93) dX7_init_77 (by decide) (fun hc => ?_) (fun hc => ?_)
  · have k := k.1 hc
    exact aw_vret dX7_init_93 rfl k
  · have k := k.2 hc
    refine aw_aload_n 0 dX7_init_80 rfl rfl ?_
    obtain ⟨o1, k⟩ := k
    refine aw_getR dX7_init_81 fl_X7_22 rfl o1 (x := (h v0 2)) rfl ?_
    refine aw_iload_n 1 dX7_init_84 rfl rfl ?_
    refine aw_iconst dX7_init_85 ⟨by decide, by decide⟩ ?_
    obtain ⟨o2, k⟩ := k
    obtain ⟨o3, k⟩ := k
    obtain ⟨o4, k⟩ := k
    refine aw_iast dX7_init_86 o2 o3 o4 ?_
    refine aw_hp (fun h1 e5 => ?_)
    have k := k h1 e5
    obtain ⟨o6, k⟩ := k
    refine aw_iinc 1 dX7_init_87 rfl o6 (by decide) ?_
    refine aw_goto (tgt := 75) dX7_init_90 (by decide) ?_
    exact aw_sub [1, 0] rfl k
set_option maxRecDepth 20000 in
theorem sg_X7_init_66 {G : GG} {b : Nat × Nat} {Q : Option VV → Hp → Prop} {v0 v1 s0 s1 s2 : Int} {h : Hp} (k : (h s2 (-1) = 35) ∧ (0 ≤ s1) ∧ (s1 < h s2 (-2)) ∧ (h s0 (-1) = 6) ∧ ∀ h1, h1 = wr h s2 s1 s0 → (inI (v1 + 1)) ∧ AW G mm_X7_init b 48 [(0, vR v0), (1, vI (v1 + 1))] [] h1 Q) : AW G mm_X7_init b 66 [(0, vR v0), (1, vI v1)] [vR s0, vI s1, vR s2] h Q := by
  obtain ⟨o1, k⟩ := k
  obtain ⟨o2, k⟩ := k
  obtain ⟨o3, k⟩ := k
  obtain ⟨o4, k⟩ := k
  refine aw_aast 6 5 aq_5 dX7_init_66 o1 o2 o3 o4 ?_
  refine aw_hp (fun h1 e5 => ?_)
  have k := k h1 e5
  obtain ⟨o6, k⟩ := k
  refine aw_iinc 1 dX7_init_67 rfl o6 (by decide) ?_
  refine aw_goto (tgt := 48) dX7_init_70 (by decide) ?_
  exact aw_sub [1, 0] rfl k
set_option maxRecDepth 20000 in
theorem sg_X7_passTimeTo_0 {G : GG} {b : Nat × Nat} {Q : Option VV → Hp → Prop} {v0 v1 : Int} {h : Hp} (k : (h v0 (-1) = 8) ∧ ((v1 ≤ (h v0 5)) → Q none h) ∧ ((¬ (v1 ≤ (h v0 5))) → ∀ h1, h1 = wr h v0 5 v1 → Q none h1)) : AW G mm_X7_passTimeTo b 0 [(0, vR v0), (1, vI v1)] [] h Q := by
  refine aw_iload_n 1 dX7_passTimeTo_0 rfl rfl ?_
  refine aw_aload_n 0 dX7_passTimeTo_1 rfl rfl ?_
  obtain ⟨o1, k⟩ := k
  refine aw_getI dX7_passTimeTo_2 fl_X7_33 rfl o1 (x := (h v0 5)) rfl ?_
  refine aw_icmp_le (tgt := 13) dX7_passTimeTo_5 (by decide) (fun hc => ?_) (fun hc => ?_)
  · have k := k.1 hc
    exact aw_vret dX7_passTimeTo_13 rfl k
  · have k := k.2 hc
    refine aw_aload_n 0 dX7_passTimeTo_8 rfl rfl ?_
    refine aw_iload_n 1 dX7_passTimeTo_9 rfl rfl ?_
    refine aw_putI dX7_passTimeTo_10 fl_X7_33 (fun q hq hf => by cases hq; cases hf) rfl rfl o1 ?_
    refine aw_hp (fun h1 e2 => ?_)
    have k := k h1 e2
    exact aw_vret dX7_passTimeTo_13 rfl k
theorem rn_X7_passTimeTo {G : GG} {Q : Option VV → Hp → Prop} {v0 v1 : Int} {h : Hp} (k : (h v0 (-1) = 8) ∧ ((v1 ≤ (h v0 5)) → Q none h) ∧ ((¬ (v1 ≤ (h v0 5))) → ∀ h1, h1 = wr h v0 5 v1 → Q none h1)) : Runs G mm_X7_passTimeTo [vR v0, vI v1] h Q := Runs.of (by decide +kernel) (Nat.le_of_ble_eq_true rfl) (sg_X7_passTimeTo_0 (b := (0, 0)) k)
set_option maxRecDepth 20000 in
theorem sg_X7_placeFor_0 {G : GG} {b : Nat × Nat} {Q : Option VV → Hp → Prop} {v0 v1 : Int} {h : Hp} (k : (h v0 (-1) = 8) ∧ (((h v0 3) < 24) → (h (h v0 0) (-1) = 35) ∧ (0 ≤ (h v0 3)) ∧ ((h v0 3) < h (h v0 0) (-2)) ∧ (inI ((h v0 3) + 1)) ∧ ∀ h1, h1 = wr h v0 3 ((h v0 3) + 1) → (h (h (h v0 0) (h v0 3)) (-1) = 6) ∧ ∀ h2, h2 = wr h1 (h (h v0 0) (h v0 3)) 0 v1 → Runs G mm_X9_lineOf [vI v1] h2 (fun r h' => AW G mm_X7_placeFor b 59 [(2, vR (h (h v0 0) (h v0 3)))] (r.toList ++ [vR (h v0 2), vI (h v0 5), vR (h (h v0 0) (h v0 3))]) h' Q)) ∧ ((¬ ((h v0 3) < 24)) → (inI ((h v0 4) + 1)) ∧ ∀ h1, h1 = wr h v0 4 ((h v0 4) + 1) → Q (some (vR 0)) h1)) : AW G mm_X7_placeFor b 0 [(0, vR v0), (1, vI v1)] [] h Q := by
  refine aw_aload_n 0 dX7_placeFor_0 rfl rfl ?_
  obtain ⟨o1, k⟩ := k
  refine aw_getI dX7_placeFor_1 fl_X7_26 rfl o1 (x := (h v0 3)) rfl ?_
  refine aw_bipush dX7_placeFor_4 ⟨by decide, by decide⟩ (by decide) ?_
  refine aw_icmp_lt (tgt := 21) dX7_placeFor_6 (by decide) (fun hc => ?_) (fun hc => ?_)
  · have k := k.1 hc
    refine aw_aload_n 0 dX7_placeFor_21 rfl rfl ?_
    refine aw_getR dX7_placeFor_22 fl_X7_11 rfl o1 (x := (h v0 0)) rfl ?_
    refine aw_aload_n 0 dX7_placeFor_25 rfl rfl ?_
    refine aw_getI dX7_placeFor_26 fl_X7_26 rfl o1 (x := (h v0 3)) rfl ?_
    obtain ⟨o2, k⟩ := k
    obtain ⟨o3, k⟩ := k
    obtain ⟨o4, k⟩ := k
    refine aw_aald 6 5 aq_5 dX7_placeFor_29 o2 o3 o4 (x := (h (h v0 0) (h v0 3))) rfl ?_
    refine aw_astore_n dX7_placeFor_30 rfl (by decide) ?_
    refine aw_aload_n 1 dX7_placeFor_31 rfl rfl ?_
    refine aw_dup dX7_placeFor_32 rfl ?_
    refine aw_getI dX7_placeFor_33 fl_X7_26 rfl o1 (x := (h v0 3)) rfl ?_
    refine aw_iconst dX7_placeFor_36 ⟨by decide, by decide⟩ ?_
    obtain ⟨o5, k⟩ := k
    refine aw_iadd dX7_placeFor_37 o5 ?_
    refine aw_putI dX7_placeFor_38 fl_X7_26 (fun q hq hf => by cases hq; cases hf) rfl rfl o1 ?_
    refine aw_hp (fun h1 e6 => ?_)
    have k := k h1 e6
    refine aw_aload_n 0 dX7_placeFor_41 rfl rfl ?_
    refine aw_iload_n 2 dX7_placeFor_42 rfl rfl ?_
    obtain ⟨o7, k⟩ := k
    have q8 := sh_w e6 (by decide) o7
    refine aw_putI dX7_placeFor_43 fl_X7_36 (fun q hq hf => by cases hq; cases hf) rfl rfl q8 ?_
    refine aw_hp (fun h2 e9 => ?_)
    have k := k h2 e9
    refine aw_aload_n 0 dX7_placeFor_46 rfl rfl ?_
    refine aw_aload_n 1 dX7_placeFor_47 rfl rfl ?_
    have q10 := sh_w e6 (by decide) o1
    have q11 := sh_w e9 (by decide) q10
    refine aw_getI dX7_placeFor_48 fl_X7_33 rfl q11 (x := (h v0 5)) ((rd_a e9 v0 5 (ne_sh q8 q10 (by decide))).trans (rd_k e6 5 (by decide))) ?_
    refine aw_aload_n 1 dX7_placeFor_51 rfl rfl ?_
    refine aw_getR dX7_placeFor_52 fl_X7_22 rfl q11 (x := (h v0 2)) ((rd_a e9 v0 2 (ne_sh q8 q10 (by decide))).trans (rd_k e6 2 (by decide))) ?_
    refine aw_iload_n 2 dX7_placeFor_55 rfl rfl ?_
    refine aw_callSN (M' := mm_X9_lineOf) [vI v1] [vR (h v0 2), vI (h v0 5), vR (h (h v0 0) (h v0 3))] lk_X7_39 dX7_placeFor_56 rfl (Nat.le_of_ble_eq_true rfl) ⟨by decide, by decide, Nat.zero_le _, Nat.zero_le _⟩ ?_
    exact k.mono (fun _ _ z => aw_sub [0] rfl z)
  · have k := k.2 hc
    refine aw_aload_n 0 dX7_placeFor_9 rfl rfl ?_
    refine aw_dup dX7_placeFor_10 rfl ?_
    refine aw_getI dX7_placeFor_11 fl_X7_30 rfl o1 (x := (h v0 4)) rfl ?_
    refine aw_iconst dX7_placeFor_14 ⟨by decide, by decide⟩ ?_
    obtain ⟨o12, k⟩ := k
    refine aw_iadd dX7_placeFor_15 o12 ?_
    refine aw_putI dX7_placeFor_16 fl_X7_30 (fun q hq hf => by cases hq; cases hf) rfl rfl o1 ?_
    refine aw_hp (fun h1 e13 => ?_)
    have k := k h1 e13
    refine aw_null dX7_placeFor_19 ?_
    exact aw_aret dX7_placeFor_20 rfl rfl k
theorem rn_X7_placeFor {G : GG} {Q : Option VV → Hp → Prop} {v0 v1 : Int} {h : Hp} (k : (h v0 (-1) = 8) ∧ (((h v0 3) < 24) → (h (h v0 0) (-1) = 35) ∧ (0 ≤ (h v0 3)) ∧ ((h v0 3) < h (h v0 0) (-2)) ∧ (inI ((h v0 3) + 1)) ∧ ∀ h1, h1 = wr h v0 3 ((h v0 3) + 1) → (h (h (h v0 0) (h v0 3)) (-1) = 6) ∧ ∀ h2, h2 = wr h1 (h (h v0 0) (h v0 3)) 0 v1 → Runs G mm_X9_lineOf [vI v1] h2 (fun r h' => AW G mm_X7_placeFor (0, 0) 59 [(2, vR (h (h v0 0) (h v0 3)))] (r.toList ++ [vR (h v0 2), vI (h v0 5), vR (h (h v0 0) (h v0 3))]) h' Q)) ∧ ((¬ ((h v0 3) < 24)) → (inI ((h v0 4) + 1)) ∧ ∀ h1, h1 = wr h v0 4 ((h v0 4) + 1) → Q (some (vR 0)) h1)) : Runs G mm_X7_placeFor [vR v0, vI v1] h Q := Runs.of (by decide +kernel) (Nat.le_of_ble_eq_true rfl) (sg_X7_placeFor_0 (b := (0, 0)) k)
set_option maxRecDepth 20000 in
theorem sg_X7_placeFor_59 {G : GG} {b : Nat × Nat} {Q : Option VV → Hp → Prop} {v2 s0 s1 s2 s3 : Int} {h : Hp} (k : (h s1 (-1) = 20) ∧ (0 ≤ s0) ∧ (s0 < h s1 (-2)) ∧ (inI (s2 + (h s1 s0))) ∧ (h s3 (-1) = 6) ∧ ∀ h1, h1 = wr h s3 1 (s2 + (h s1 s0)) → Q (some (vR v2)) h1) : AW G mm_X7_placeFor b 59 [(2, vR v2)] [vI s0, vR s1, vI s2, vR s3] h Q := by
  obtain ⟨o1, k⟩ := k
  obtain ⟨o2, k⟩ := k
  obtain ⟨o3, k⟩ := k
  refine aw_iald dX7_placeFor_59 o1 o2 o3 (x := (h s1 s0)) rfl ?_
  obtain ⟨o4, k⟩ := k
  refine aw_iadd dX7_placeFor_60 o4 ?_
  obtain ⟨o5, k⟩ := k
  refine aw_putI dX7_placeFor_61 fl_X7_43 (fun q hq hf => by cases hq; cases hf) rfl rfl o5 ?_
  refine aw_hp (fun h1 e6 => ?_)
  have k := k h1 e6
  refine aw_aload_n 0 dX7_placeFor_64 rfl rfl ?_
  exact aw_aret dX7_placeFor_65 rfl rfl k
set_option maxRecDepth 20000 in
theorem sg_X7_pullFirst_0 {G : GG} {b : Nat × Nat} {Q : Option VV → Hp → Prop} {v0 : Int} {h : Hp} (k : (h v0 (-1) = 8) ∧ Runs G mm_X7_firstPlace [vR v0] h (fun r h' => AW G mm_X7_pullFirst b 4 [(0, vR v0)] (r.toList ++ []) h' Q)) : AW G mm_X7_pullFirst b 0 [(0, vR v0)] [] h Q := by
  refine aw_aload_n 0 dX7_pullFirst_0 rfl rfl ?_
  obtain ⟨o1, k⟩ := k
  refine aw_callV (M' := mm_X7_firstPlace) 7 [] [] lk_X7_54 ⟨_, rfl, rfl⟩ dX7_pullFirst_1 rfl (Nat.le_of_ble_eq_true rfl) ⟨by decide, by decide, Nat.zero_le _, Nat.zero_le _⟩ o1 ?_
  exact k
theorem rn_X7_pullFirst {G : GG} {Q : Option VV → Hp → Prop} {v0 : Int} {h : Hp} (k : (h v0 (-1) = 8) ∧ Runs G mm_X7_firstPlace [vR v0] h (fun r h' => AW G mm_X7_pullFirst (0, 0) 4 [(0, vR v0)] (r.toList ++ []) h' Q)) : Runs G mm_X7_pullFirst [vR v0] h Q := Runs.of (by decide +kernel) (Nat.le_of_ble_eq_true rfl) (sg_X7_pullFirst_0 (b := (0, 0)) k)
set_option maxRecDepth 20000 in
theorem sg_X7_pullFirst_4 {G : GG} {b : Nat × Nat} {Q : Option VV → Hp → Prop} {v0 s0 : Int} {h : Hp} (k : ((¬ s0 = (-1)) → (h v0 (-1) = 8) ∧ (h (h v0 0) (-1) = 35) ∧ (0 ≤ s0) ∧ (s0 < h (h v0 0) (-2)) ∧ (h (h v0 1) (-1) = 6) ∧ Runs G mm_X5_beCopyOf [vR (h v0 1), vR (h (h v0 0) s0)] h (fun r h' => AW G mm_X7_pullFirst b 25 [(0, vR v0), (1, vI s0)] (r.toList ++ []) h' Q)) ∧ ((s0 = (-1)) → Q (some (vR 0)) h)) : AW G mm_X7_pullFirst b 4 [(0, vR v0)] [vI s0] h Q := by
  refine aw_istore_n dX7_pullFirst_4 rfl (by decide) ?_
  refine aw_iload_n 0 dX7_pullFirst_5 rfl rfl ?_
  refine aw_iconst dX7_pullFirst_6 ⟨by decide, by decide⟩ ?_
  refine aw_icmp_ne (tgt := 12) dX7_pullFirst_7 (by decide) (fun hc => ?_) (fun hc => ?_)
  · have k := k.1 hc
    refine aw_aload_n 1 dX7_pullFirst_12 rfl rfl ?_
    obtain ⟨o1, k⟩ := k
    refine aw_getR dX7_pullFirst_13 fl_X7_18 rfl o1 (x := (h v0 1)) rfl ?_
    refine aw_aload_n 1 dX7_pullFirst_16 rfl rfl ?_
    refine aw_getR dX7_pullFirst_17 fl_X7_11 rfl o1 (x := (h v0 0)) rfl ?_
    refine aw_iload_n 0 dX7_pullFirst_20 rfl rfl ?_
    obtain ⟨o2, k⟩ := k
    obtain ⟨o3, k⟩ := k
    obtain ⟨o4, k⟩ := k
    refine aw_aald 6 5 aq_5 dX7_pullFirst_21 o2 o3 o4 (x := (h (h v0 0) s0)) rfl ?_
    obtain ⟨o5, k⟩ := k
    refine aw_callV (M' := mm_X5_beCopyOf) 5 [vR (h (h v0 0) s0)] [] lk_X7_50 ⟨_, rfl, rfl⟩ dX7_pullFirst_22 rfl (Nat.le_of_ble_eq_true rfl) ⟨by decide, by decide, Nat.zero_le _, Nat.zero_le _⟩ o5 ?_
    exact k.mono (fun _ _ z => aw_sub [1, 0] rfl z)
  · have k := k.2 hc
    refine aw_null dX7_pullFirst_10 ?_
    exact aw_aret dX7_pullFirst_11 rfl rfl k
set_option maxRecDepth 20000 in
theorem sg_X7_pullFirst_25 {G : GG} {b : Nat × Nat} {Q : Option VV → Hp → Prop} {v0 v1 : Int} {h : Hp} (k : (h v0 (-1) = 8) ∧ Runs G mm_X7_removeAt [vR v0, vI v1] h (fun r h' => AW G mm_X7_pullFirst b 30 [(0, vR v0)] (r.toList ++ []) h' Q)) : AW G mm_X7_pullFirst b 25 [(0, vR v0), (1, vI v1)] [] h Q := by
  refine aw_aload_n 0 dX7_pullFirst_25 rfl rfl ?_
  refine aw_iload_n 1 dX7_pullFirst_26 rfl rfl ?_
  obtain ⟨o1, k⟩ := k
  refine aw_callV (M' := mm_X7_removeAt) 7 [vI v1] [] lk_X7_58 ⟨_, rfl, rfl⟩ dX7_pullFirst_27 rfl (Nat.le_of_ble_eq_true rfl) ⟨by decide, by decide, Nat.zero_le _, Nat.zero_le _⟩ o1 ?_
  exact k.mono (fun _ _ z => aw_sub [0] rfl z)
set_option maxRecDepth 20000 in
theorem sg_X7_pullFirst_30 {G : GG} {b : Nat × Nat} {Q : Option VV → Hp → Prop} {v0 : Int} {h : Hp} (k : (h v0 (-1) = 8) ∧ Q (some (vR (h v0 1))) h) : AW G mm_X7_pullFirst b 30 [(0, vR v0)] [] h Q := by
  refine aw_aload_n 0 dX7_pullFirst_30 rfl rfl ?_
  obtain ⟨o1, k⟩ := k
  refine aw_getR dX7_pullFirst_31 fl_X7_18 rfl o1 (x := (h v0 1)) rfl ?_
  exact aw_aret dX7_pullFirst_34 rfl rfl k
set_option maxRecDepth 20000 in
theorem sg_X7_removeAt_0 {G : GG} {b : Nat × Nat} {Q : Option VV → Hp → Prop} {v0 v1 : Int} {h : Hp} (k : (h v0 (-1) = 8) ∧ (h (h v0 0) (-1) = 35) ∧ (0 ≤ v1) ∧ (v1 < h (h v0 0) (-2)) ∧ AW G mm_X7_removeAt b 9 [(0, vR v0), (2, vR (h (h v0 0) v1)), (3, vI v1)] [] h Q) : AW G mm_X7_removeAt b 0 [(0, vR v0), (1, vI v1)] [] h Q := by
  refine aw_aload_n 0 dX7_removeAt_0 rfl rfl ?_
  obtain ⟨o1, k⟩ := k
  refine aw_getR dX7_removeAt_1 fl_X7_11 rfl o1 (x := (h v0 0)) rfl ?_
  refine aw_iload_n 1 dX7_removeAt_4 rfl rfl ?_
  obtain ⟨o2, k⟩ := k
  obtain ⟨o3, k⟩ := k
  obtain ⟨o4, k⟩ := k
  refine aw_aald 6 5 aq_5 dX7_removeAt_5 o2 o3 o4 (x := (h (h v0 0) v1)) rfl ?_
  refine aw_astore_n dX7_removeAt_6 rfl (by decide) ?_
  refine aw_iload_n 2 dX7_removeAt_7 rfl rfl ?_
  refine aw_istore_n dX7_removeAt_8 rfl (by decide) ?_
  exact aw_sub [2, 1, 0] rfl k
theorem rn_X7_removeAt {G : GG} {Q : Option VV → Hp → Prop} {v0 v1 : Int} {h : Hp} (k : (h v0 (-1) = 8) ∧ (h (h v0 0) (-1) = 35) ∧ (0 ≤ v1) ∧ (v1 < h (h v0 0) (-2)) ∧ AW G mm_X7_removeAt (0, 0) 9 [(0, vR v0), (2, vR (h (h v0 0) v1)), (3, vI v1)] [] h Q) : Runs G mm_X7_removeAt [vR v0, vI v1] h Q := Runs.of (by decide +kernel) (Nat.le_of_ble_eq_true rfl) (sg_X7_removeAt_0 (b := (0, 0)) k)
set_option maxRecDepth 20000 in
theorem sg_X7_removeAt_9 {G : GG} {b : Nat × Nat} {Q : Option VV → Hp → Prop} {v0 v2 v3 : Int} {h : Hp} (k : (h v0 (-1) = 8) ∧ (inI ((h v0 3) - 1)) ∧ ((((h v0 3) - 1) ≤ v3) → ∀ h1, h1 = wr h v0 3 ((h v0 3) - 1) → (h (h v0 0) (-1) = 35) ∧ (0 ≤ ((h v0 3) - 1)) ∧ (((h v0 3) - 1) < h (h v0 0) (-2)) ∧ (h v2 (-1) = 6) ∧ ∀ h2, h2 = wr h1 (h v0 0) ((h v0 3) - 1) v2 → Q none h2) ∧ ((¬ (((h v0 3) - 1) ≤ v3)) → (inI (v3 + 1)) ∧ (h (h v0 0) (-1) = 35) ∧ (0 ≤ (v3 + 1)) ∧ ((v3 + 1) < h (h v0 0) (-2)) ∧ (0 ≤ v3) ∧ (v3 < h (h v0 0) (-2)) ∧ (h (h (h v0 0) (v3 + 1)) (-1) = 6) ∧ ∀ h1, h1 = wr h (h v0 0) v3 (h (h v0 0) (v3 + 1)) → AW G mm_X7_removeAt b 9 [(0, vR v0), (2, vR v2), (3, vI (v3 + 1))] [] h1 Q)) : AW G mm_X7_removeAt b 9 [(0, vR v0), (2, vR v2), (3, vI v3)] [] h Q := by
  refine aw_iload_n 2 dX7_removeAt_9 rfl rfl ?_
  refine aw_aload_n 0 dX7_removeAt_10 rfl rfl ?_
  obtain ⟨o1, k⟩ := k
  refine aw_getI dX7_removeAt_11 fl_X7_26 rfl o1 (x := (h v0 3)) rfl ?_
  refine aw_iconst dX7_removeAt_14 ⟨by decide, by decide⟩ ?_
  obtain ⟨o2, k⟩ := k
  refine aw_isub dX7_removeAt_15 o2 ?_
  refine aw_icmp_ge (tgt := 39) dX7_removeAt_16 (by decide) (fun hc => ?_) (fun hc => ?_)
  · have k := k.1 hc
    refine aw_aload_n 0 dX7_removeAt_39 rfl rfl ?_
    refine aw_dup dX7_removeAt_40 rfl ?_
    refine aw_getI dX7_removeAt_41 fl_X7_26 rfl o1 (x := (h v0 3)) rfl ?_
    refine aw_iconst dX7_removeAt_44 ⟨by decide, by decide⟩ ?_
    refine aw_isub dX7_removeAt_45 o2 ?_
    refine aw_putI dX7_removeAt_46 fl_X7_26 (fun q hq hf => by cases hq; cases hf) rfl rfl o1 ?_
    refine aw_hp (fun h1 e3 => ?_)
    have k := k h1 e3
    refine aw_aload_n 0 dX7_removeAt_49 rfl rfl ?_
    have q4 := sh_w e3 (by decide) o1
    refine aw_getR dX7_removeAt_50 fl_X7_11 rfl q4 (x := (h v0 0)) (rd_k e3 0 (by decide)) ?_
    refine aw_aload_n 0 dX7_removeAt_53 rfl rfl ?_
    refine aw_getI dX7_removeAt_54 fl_X7_26 rfl q4 (x := ((h v0 3) - 1)) (rd_e e3) ?_
    refine aw_aload_n 1 dX7_removeAt_57 rfl rfl ?_
    obtain ⟨o5, k⟩ := k
    obtain ⟨o6, k⟩ := k
    obtain ⟨o7, k⟩ := k
    obtain ⟨o8, k⟩ := k
    have q9 := sh_w e3 (by decide) o5
    have q10 := sh_w e3 (by decide) o8
    refine aw_aast 6 5 aq_5 dX7_removeAt_58 q9 o6 (lt_l (ln_w e3 (h v0 0) (by decide)) o7) q10 ?_
    refine aw_hp (fun h2 e11 => ?_)
    have k := k h2 e11
    exact aw_vret dX7_removeAt_59 rfl k
  · have k := k.2 hc
    refine aw_aload_n 0 dX7_removeAt_19 rfl rfl ?_
    refine aw_getR dX7_removeAt_20 fl_X7_11 rfl o1 (x := (h v0 0)) rfl ?_
    refine aw_iload_n 2 dX7_removeAt_23 rfl rfl ?_
    refine aw_aload_n 0 dX7_removeAt_24 rfl rfl ?_
    refine aw_getR dX7_removeAt_25 fl_X7_11 rfl o1 (x := (h v0 0)) rfl ?_
    refine aw_iload_n 2 dX7_removeAt_28 rfl rfl ?_
    refine aw_iconst dX7_removeAt_29 ⟨by decide, by decide⟩ ?_
    obtain ⟨o12, k⟩ := k
    refine aw_iadd dX7_removeAt_30 o12 ?_
    obtain ⟨o13, k⟩ := k
    obtain ⟨o14, k⟩ := k
    obtain ⟨o15, k⟩ := k
    refine aw_aald 6 5 aq_5 dX7_removeAt_31 o13 o14 o15 (x := (h (h v0 0) (v3 + 1))) rfl ?_
    obtain ⟨o16, k⟩ := k
    obtain ⟨o17, k⟩ := k
    obtain ⟨o18, k⟩ := k
    refine aw_aast 6 5 aq_5 dX7_removeAt_32 o13 o16 o17 o18 ?_
    refine aw_hp (fun h1 e19 => ?_)
    have k := k h1 e19
    refine aw_iinc 2 dX7_removeAt_33 rfl o12 (by decide) ?_
    refine aw_goto (tgt := 9) dX7_removeAt_36 (by decide) ?_
    exact aw_sub [1, 2, 0] rfl k
set_option maxRecDepth 20000 in
theorem sg_X7_repeat_0 {G : GG} {b : Nat × Nat} {Q : Option VV → Hp → Prop} {v0 v1 : Int} {h : Hp} (k : (h v1 (-1) = 6) ∧ (h v0 (-1) = 8) ∧ Runs G mm_X7_placeFor [vR v0, vI (h v1 0)] h (fun r h' => AW G mm_X7_repeat b 8 [(1, vR v1)] (r.toList ++ []) h' Q)) : AW G mm_X7_repeat b 0 [(0, vR v0), (1, vR v1)] [] h Q := by
  refine aw_aload_n 0 dX7_repeat_0 rfl rfl ?_
  refine aw_aload_n 1 dX7_repeat_1 rfl rfl ?_
  obtain ⟨o1, k⟩ := k
  refine aw_getI dX7_repeat_2 fl_X7_36 rfl o1 (x := (h v1 0)) rfl ?_
  obtain ⟨o2, k⟩ := k
  refine aw_callV (M' := mm_X7_placeFor) 7 [vI (h v1 0)] [] lk_X7_46 ⟨_, rfl, rfl⟩ dX7_repeat_5 rfl (Nat.le_of_ble_eq_true rfl) ⟨by decide, by decide, Nat.zero_le _, Nat.zero_le _⟩ o2 ?_
  exact k.mono (fun _ _ z => aw_sub [1] rfl z)
theorem rn_X7_repeat {G : GG} {Q : Option VV → Hp → Prop} {v0 v1 : Int} {h : Hp} (k : (h v1 (-1) = 6) ∧ (h v0 (-1) = 8) ∧ Runs G mm_X7_placeFor [vR v0, vI (h v1 0)] h (fun r h' => AW G mm_X7_repeat (0, 0) 8 [(1, vR v1)] (r.toList ++ []) h' Q)) : Runs G mm_X7_repeat [vR v0, vR v1] h Q := Runs.of (by decide +kernel) (Nat.le_of_ble_eq_true rfl) (sg_X7_repeat_0 (b := (0, 0)) k)
set_option maxRecDepth 20000 in
theorem sg_X7_repeat_8 {G : GG} {b : Nat × Nat} {Q : Option VV → Hp → Prop} {v1 s0 : Int} {h : Hp} (k : ((s0 = 0) → Q none h) ∧ ((¬ s0 = 0) → (h s0 (-1) = 6) ∧ Runs G mm_X5_beCopyOf [vR s0, vR v1] h (fun r h' => AW G mm_X7_repeat b 23 [(2, vR s0), (3, vI (h s0 1))] (r.toList ++ []) h' Q))) : AW G mm_X7_repeat b 8 [(1, vR v1)] [vR s0] h Q := by
  refine aw_astore_n dX7_repeat_8 rfl (by decide) ?_
  refine aw_aload_n 0 dX7_repeat_9 rfl rfl ?_
  refine aw_ifnull (tgt := 28) dX7_repeat_10 (by decide) (fun hc => ?_) (fun hc => ?_)
  · have k := k.1 hc
    exact aw_vret dX7_repeat_28 rfl k
  · have k := k.2 hc
    refine aw_aload_n 0 dX7_repeat_13 rfl rfl ?_
    obtain ⟨o1, k⟩ := k
    refine aw_getI dX7_repeat_14 fl_X7_43 rfl o1 (x := (h s0 1)) rfl ?_
    refine aw_istore_n dX7_repeat_17 rfl (by decide) ?_
    refine aw_aload_n 1 dX7_repeat_18 rfl rfl ?_
    refine aw_aload_n 2 dX7_repeat_19 rfl rfl ?_
    refine aw_callV (M' := mm_X5_beCopyOf) 5 [vR v1] [] lk_X7_50 ⟨_, rfl, rfl⟩ dX7_repeat_20 rfl (Nat.le_of_ble_eq_true rfl) ⟨by decide, by decide, Nat.zero_le _, Nat.zero_le _⟩ o1 ?_
    exact k.mono (fun _ _ z => aw_sub [1, 0] rfl z)
set_option maxRecDepth 20000 in
theorem sg_X7_repeat_23 {G : GG} {b : Nat × Nat} {Q : Option VV → Hp → Prop} {v2 v3 : Int} {h : Hp} (k : (h v2 (-1) = 6) ∧ ∀ h1, h1 = wr h v2 1 v3 → Q none h1) : AW G mm_X7_repeat b 23 [(2, vR v2), (3, vI v3)] [] h Q := by
  refine aw_aload_n 0 dX7_repeat_23 rfl rfl ?_
  refine aw_iload_n 1 dX7_repeat_24 rfl rfl ?_
  obtain ⟨o1, k⟩ := k
  refine aw_putI dX7_repeat_25 fl_X7_43 (fun q hq hf => by cases hq; cases hf) rfl rfl o1 ?_
  refine aw_hp (fun h1 e2 => ?_)
  have k := k h1 e2
  exact aw_vret dX7_repeat_28 rfl k
set_option maxRecDepth 20000 in
theorem sg_X7_reset_0 {G : GG} {b : Nat × Nat} {Q : Option VV → Hp → Prop} {v0 : Int} {h : Hp} (k : (h v0 (-1) = 8) ∧ ∀ h1, h1 = wr h v0 3 0 → ∀ h2, h2 = wr h1 v0 4 0 → ∀ h3, h3 = wr h2 v0 5 0 → AW G mm_X7_reset b 17 [(0, vR v0), (1, vI 0)] [] h3 Q) : AW G mm_X7_reset b 0 [(0, vR v0)] [] h Q := by
  refine aw_aload_n 0 dX7_reset_0 rfl rfl ?_
  refine aw_iconst dX7_reset_1 ⟨by decide, by decide⟩ ?_
  obtain ⟨o1, k⟩ := k
  refine aw_putI dX7_reset_2 fl_X7_26 (fun q hq hf => by cases hq; cases hf) rfl rfl o1 ?_
  refine aw_hp (fun h1 e2 => ?_)
  have k := k h1 e2
  refine aw_aload_n 0 dX7_reset_5 rfl rfl ?_
  refine aw_iconst dX7_reset_6 ⟨by decide, by decide⟩ ?_
  have q3 := sh_w e2 (by decide) o1
  refine aw_putI dX7_reset_7 fl_X7_30 (fun q hq hf => by cases hq; cases hf) rfl rfl q3 ?_
  refine aw_hp (fun h2 e4 => ?_)
  have k := k h2 e4
  refine aw_aload_n 0 dX7_reset_10 rfl rfl ?_
  refine aw_iconst dX7_reset_11 ⟨by decide, by decide⟩ ?_
  have q5 := sh_w e4 (by decide) q3
  refine aw_putI dX7_reset_12 fl_X7_33 (fun q hq hf => by cases hq; cases hf) rfl rfl q5 ?_
  refine aw_hp (fun h3 e6 => ?_)
  have k := k h3 e6
  refine aw_iconst dX7_reset_15 ⟨by decide, by decide⟩ ?_
  refine aw_istore_n dX7_reset_16 rfl (by decide) ?_
  exact aw_sub [1, 0] rfl k
theorem rn_X7_reset {G : GG} {Q : Option VV → Hp → Prop} {v0 : Int} {h : Hp} (k : (h v0 (-1) = 8) ∧ ∀ h1, h1 = wr h v0 3 0 → ∀ h2, h2 = wr h1 v0 4 0 → ∀ h3, h3 = wr h2 v0 5 0 → AW G mm_X7_reset (0, 0) 17 [(0, vR v0), (1, vI 0)] [] h3 Q) : Runs G mm_X7_reset [vR v0] h Q := Runs.of (by decide +kernel) (Nat.le_of_ble_eq_true rfl) (sg_X7_reset_0 (b := (0, 0)) k)
set_option maxRecDepth 20000 in
theorem sg_X7_reset_17 {G : GG} {b : Nat × Nat} {Q : Option VV → Hp → Prop} {v0 v1 : Int} {h : Hp} (k : ((2 ≤ v1) → Q none h) ∧ ((¬ (2 ≤ v1)) → (h v0 (-1) = 8) ∧ (h (h v0 2) (-1) = 20) ∧ (0 ≤ v1) ∧ (v1 < h (h v0 2) (-2)) ∧ ∀ h1, h1 = wr h (h v0 2) v1 1 → (inI (v1 + 1)) ∧ AW G mm_X7_reset b 17 [(0, vR v0), (1, vI (v1 + 1))] [] h1 Q)) : AW G mm_X7_reset b 17 [(0, vR v0), (1, vI v1)] [] h Q := by
  refine aw_iload_n 1 dX7_reset_17 rfl rfl ?_
  refine aw_iconst dX7_reset_18 ⟨by decide, by decide⟩ ?_
  refine aw_icmp_ge (tgt := 35) dX7_reset_19 (by decide) (fun hc => ?_) (fun hc => ?_)
  · have k := k.1 hc
    exact aw_vret dX7_reset_35 rfl k
  · have k := k.2 hc
    refine aw_aload_n 0 dX7_reset_22 rfl rfl ?_
    obtain ⟨o1, k⟩ := k
    refine aw_getR dX7_reset_23 fl_X7_22 rfl o1 (x := (h v0 2)) rfl ?_
    refine aw_iload_n 1 dX7_reset_26 rfl rfl ?_
    refine aw_iconst dX7_reset_27 ⟨by decide, by decide⟩ ?_
    obtain ⟨o2, k⟩ := k
    obtain ⟨o3, k⟩ := k
    obtain ⟨o4, k⟩ := k
    refine aw_iast dX7_reset_28 o2 o3 o4 ?_
    refine aw_hp (fun h1 e5 => ?_)
    have k := k h1 e5
    obtain ⟨o6, k⟩ := k
    refine aw_iinc 1 dX7_reset_29 rfl o6 (by decide) ?_
    refine aw_goto (tgt := 17) dX7_reset_32 (by decide) ?_
    exact aw_sub [1, 0] rfl k
