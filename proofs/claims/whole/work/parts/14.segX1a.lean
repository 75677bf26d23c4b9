/-! printed by writeseg.py: segments of methods -/
set_option maxRecDepth 20000 in
theorem sg_X1_answer_0 {G : GG} {b : Nat × Nat} {Q : Option VV → Hp → Prop} {v0 v1 v2 v3 : Int} {h : Hp} (k : (h v0 (-1) = 2) ∧ Runs G mm_X9_otherEnd [vI (h v0 0)] h (fun r h' => AW G mm_X1_answer b 11 [(1, vI v1), (2, vI v2), (3, vI v3)] (r.toList ++ [vR (h v0 2)]) h' Q)) : AW G mm_X1_answer b 0 [(0, vR v0), (1, vI v1), (2, vI v2), (3, vI v3)] [] h Q := by
  refine aw_aload_n 0 dX1_answer_0 rfl rfl ?_
  obtain ⟨o1, k⟩ := k
  refine aw_getR dX1_answer_1 fl_X1_67 rfl o1 (x := (h v0 2)) rfl ?_
  refine aw_aload_n 0 dX1_answer_4 rfl rfl ?_
  refine aw_getI dX1_answer_5 fl_X1_60 rfl o1 (x := (h v0 0)) rfl ?_
  refine aw_callSN (M' := mm_X9_otherEnd) [vI (h v0 0)] [vR (h v0 2)] lk_X1_116 dX1_answer_8 rfl (Nat.le_of_ble_eq_true rfl) ⟨by decide, by decide, Nat.zero_le _, Nat.zero_le _⟩ ?_
  exact k.mono (fun _ _ z => aw_sub [1, 2, 3] rfl z)
theorem rn_X1_answer {G : GG} {Q : Option VV → Hp → Prop} {v0 v1 v2 v3 : Int} {h : Hp} (k : (h v0 (-1) = 2) ∧ Runs G mm_X9_otherEnd [vI (h v0 0)] h (fun r h' => AW G mm_X1_answer (0, 0) 11 [(1, vI v1), (2, vI v2), (3, vI v3)] (r.toList ++ [vR (h v0 2)]) h' Q)) : Runs G mm_X1_answer [vR v0, vI v1, vI v2, vI v3] h Q := Runs.of (by decide +kernel) (Nat.le_of_ble_eq_true rfl) (sg_X1_answer_0 (b := (0, 0)) k)
set_option maxRecDepth 20000 in
theorem sg_X1_answer_11 {G : GG} {b : Nat × Nat} {Q : Option VV → Hp → Prop} {v1 v2 v3 s0 s1 : Int} {h : Hp} (k : (h s1 (-1) = 8) ∧ Runs G mm_X7_placeFor [vR s1, vI s0] h (fun r h' => AW G mm_X1_answer b 14 [(1, vI v1), (2, vI v2), (3, vI v3)] (r.toList ++ []) h' Q)) : AW G mm_X1_answer b 11 [(1, vI v1), (2, vI v2), (3, vI v3)] [vI s0, vR s1] h Q := by
  obtain ⟨o1, k⟩ := k
  refine aw_callV (M' := mm_X7_placeFor) 7 [vI s0] [] lk_X1_120 ⟨_, rfl, rfl⟩ dX1_answer_11 rfl (Nat.le_of_ble_eq_true rfl) ⟨by decide, by decide, Nat.zero_le _, Nat.zero_le _⟩ o1 ?_
  exact k
set_option maxRecDepth 20000 in
theorem sg_X1_answer_14 {G : GG} {b : Nat × Nat} {Q : Option VV → Hp → Prop} {v1 v2 v3 s0 : Int} {h : Hp} (k : ((s0 = 0) → Q none h) ∧ ((¬ s0 = 0) → (h s0 (-1) = 6) ∧ Runs G mm_X5_beAnswer [vR s0, vI v1, vI v2, vI v3] h (fun r h' => AW G mm_X1_answer b 29 [] (r.toList ++ []) h' Q))) : AW G mm_X1_answer b 14 [(1, vI v1), (2, vI v2), (3, vI v3)] [vR s0] h Q := by
  refine aw_astore dX1_answer_14 (by decide) ?_
  refine aw_aload 0 dX1_answer_16 rfl ?_
  refine aw_ifnull (tgt := 29) dX1_answer_18 (by decide) (fun hc => ?_) (fun hc => ?_)
  · have k := k.1 hc
    exact aw_vret dX1_answer_29 rfl k
  · have k := k.2 hc
    refine aw_aload 0 dX1_answer_21 rfl ?_
    refine aw_iload_n 1 dX1_answer_23 rfl rfl ?_
    refine aw_iload_n 2 dX1_answer_24 rfl rfl ?_
    refine aw_iload_n 3 dX1_answer_25 rfl rfl ?_
    obtain ⟨o1, k⟩ := k
    refine aw_callV (M' := mm_X5_beAnswer) 5 [vI v1, vI v2, vI v3] [] lk_X1_131 ⟨_, rfl, rfl⟩ dX1_answer_26 rfl (Nat.le_of_ble_eq_true rfl) ⟨by decide, by decide, Nat.zero_le _, Nat.zero_le _⟩ o1 ?_
    exact k.mono (fun _ _ z => aw_sub [] rfl z)
set_option maxRecDepth 20000 in
theorem sg_X1_answer_29 {G : GG} {b : Nat × Nat} {Q : Option VV → Hp → Prop} {h : Hp} (k : Q none h) : AW G mm_X1_answer b 29 [] [] h Q := by
  exact aw_vret dX1_answer_29 rfl k
set_option maxRecDepth 20000 in
theorem sg_X1_bearBusy_0 {G : GG} {b : Nat × Nat} {Q : Option VV → Hp → Prop} {v0 : Int} {h : Hp} (k : (h v0 (-1) = 2) ∧ (inI ((h v0 12) + 1)) ∧ ∀ h1, h1 = wr h v0 12 ((h v0 12) + 1) → ((((h v0 12) + 1) < 4) → Q none h1) ∧ ((¬ (((h v0 12) + 1) < 4)) → (1 ≤ b.1) ∧ (6 ≤ b.2) ∧ Runs G mm_X1_finishOldest [vR v0, vI 4, vI 0] h1 (fun r h' => AW G mm_X1_bearBusy (b.1 - 1, b.2 - 6) 24 [(0, vR v0)] (r.toList ++ []) h' Q))) : AW G mm_X1_bearBusy b 0 [(0, vR v0)] [] h Q := by
  refine aw_aload_n 0 dX1_bearBusy_0 rfl rfl ?_
  refine aw_dup dX1_bearBusy_1 rfl ?_
  obtain ⟨o1, k⟩ := k
  refine aw_getI dX1_bearBusy_2 fl_X1_47 rfl o1 (x := (h v0 12)) rfl ?_
  refine aw_iconst dX1_bearBusy_5 ⟨by decide, by decide⟩ ?_
  obtain ⟨o2, k⟩ := k
  refine aw_iadd dX1_bearBusy_6 o2 ?_
  refine aw_putI dX1_bearBusy_7 fl_X1_47 (fun q hq hf => by cases hq; cases hf) rfl rfl o1 ?_
  refine aw_hp (fun h1 e3 => ?_)
  have k := k h1 e3
  refine aw_aload_n 0 dX1_bearBusy_10 rfl rfl ?_
  have q4 := sh_w e3 (by decide) o1
  refine aw_getI dX1_bearBusy_11 fl_X1_47 rfl q4 (x := ((h v0 12) + 1)) (rd_e e3) ?_
  refine aw_iconst dX1_bearBusy_14 ⟨by decide, by decide⟩ ?_
  refine aw_icmp_lt (tgt := 28) dX1_bearBusy_15 (by decide) (fun hc => ?_) (fun hc => ?_)
  · have k := k.1 hc
    exact aw_vret dX1_bearBusy_28 rfl k
  · have k := k.2 hc
    refine aw_aload_n 0 dX1_bearBusy_18 rfl rfl ?_
    refine aw_iconst dX1_bearBusy_19 ⟨by decide, by decide⟩ ?_
    refine aw_iconst dX1_bearBusy_20 ⟨by decide, by decide⟩ ?_
    obtain ⟨o5, k⟩ := k
    obtain ⟨o6, k⟩ := k
    refine aw_callV (M' := mm_X1_finishOldest) 1 [vI 4, vI 0] [] lk_X1_236 ⟨_, rfl, rfl⟩ dX1_bearBusy_21 rfl (Nat.le_of_ble_eq_true rfl) ⟨by decide, by decide, o5, o6⟩ q4 ?_
    exact k
theorem rn_X1_bearBusy {G : GG} {Q : Option VV → Hp → Prop} {v0 : Int} {h : Hp} (k : (h v0 (-1) = 2) ∧ (inI ((h v0 12) + 1)) ∧ ∀ h1, h1 = wr h v0 12 ((h v0 12) + 1) → ((((h v0 12) + 1) < 4) → Q none h1) ∧ ((¬ (((h v0 12) + 1) < 4)) → (1 ≤ 8) ∧ (6 ≤ 48) ∧ Runs G mm_X1_finishOldest [vR v0, vI 4, vI 0] h1 (fun r h' => AW G mm_X1_bearBusy (8 - 1, 48 - 6) 24 [(0, vR v0)] (r.toList ++ []) h' Q))) : Runs G mm_X1_bearBusy [vR v0] h Q := Runs.of (by decide +kernel) (Nat.le_of_ble_eq_true rfl) (sg_X1_bearBusy_0 (b := (8, 48)) k)
set_option maxRecDepth 20000 in
theorem sg_X1_bearBusy_24 {G : GG} {b : Nat × Nat} {Q : Option VV → Hp → Prop} {v0 : Int} {h : Hp} (k : (7 ≤ b.1) ∧ (42 ≤ b.2) ∧ (h v0 (-1) = 2) ∧ Runs G mm_X1_breakUp [vR v0] h (fun r h' => AW G mm_X1_bearBusy (b.1 - 7, b.2 - 42) 28 [] (r.toList ++ []) h' Q)) : AW G mm_X1_bearBusy b 24 [(0, vR v0)] [] h Q := by
  refine aw_aload_n 0 dX1_bearBusy_24 rfl rfl ?_
  obtain ⟨o1, k⟩ := k
  obtain ⟨o2, k⟩ := k
  obtain ⟨o3, k⟩ := k
  refine aw_callV (M' := mm_X1_breakUp) 1 [] [] lk_X1_184 ⟨_, rfl, rfl⟩ dX1_bearBusy_25 rfl (Nat.le_of_ble_eq_true rfl) ⟨by decide, by decide, o1, o2⟩ o3 ?_
  exact k.mono (fun _ _ z => aw_sub [] rfl z)
set_option maxRecDepth 20000 in
theorem sg_X1_bearBusy_28 {G : GG} {b : Nat × Nat} {Q : Option VV → Hp → Prop} {h : Hp} (k : Q none h) : AW G mm_X1_bearBusy b 28 [] [] h Q := by
  exact aw_vret dX1_bearBusy_28 rfl k
set_option maxRecDepth 20000 in
theorem sg_X1_breakUp_0 {G : GG} {b : Nat × Nat} {Q : Option VV → Hp → Prop} {v0 : Int} {h : Hp} (k : (h v0 (-1) = 2) ∧ ∀ h1, h1 = wr h v0 6 2 → AW G mm_X1_breakUp b 7 [(0, vR v0), (1, vI 0)] [] h1 Q) : AW G mm_X1_breakUp b 0 [(0, vR v0)] [] h Q := by
  refine aw_aload_n 0 dX1_breakUp_0 rfl rfl ?_
  refine aw_iconst dX1_breakUp_1 ⟨by decide, by decide⟩ ?_
  obtain ⟨o1, k⟩ := k
  refine aw_putI dX1_breakUp_2 fl_X1_28 (fun q hq hf => by cases hq; cases hf) rfl rfl o1 ?_
  refine aw_hp (fun h1 e2 => ?_)
  have k := k h1 e2
  refine aw_iconst dX1_breakUp_5 ⟨by decide, by decide⟩ ?_
  refine aw_istore_n dX1_breakUp_6 rfl (by decide) ?_
  exact aw_sub [1, 0] rfl k
theorem rn_X1_breakUp {G : GG} {Q : Option VV → Hp → Prop} {v0 : Int} {h : Hp} (k : (h v0 (-1) = 2) ∧ ∀ h1, h1 = wr h v0 6 2 → AW G mm_X1_breakUp (7, 42) 7 [(0, vR v0), (1, vI 0)] [] h1 Q) : Runs G mm_X1_breakUp [vR v0] h Q := Runs.of (by decide +kernel) (Nat.le_of_ble_eq_true rfl) (sg_X1_breakUp_0 (b := (7, 42)) k)
set_option maxRecDepth 20000 in
theorem sg_X1_breakUp_7 {G : GG} {b : Nat × Nat} {Q : Option VV → Hp → Prop} {v0 v1 : Int} {h : Hp} (k : ((4 ≤ v1) → AW G mm_X1_breakUp b 33 [(0, vR v0), (1, vI 0)] [] h Q) ∧ ((¬ (4 ≤ v1)) → (h v0 (-1) = 2) ∧ (((h v0 8) ≤ 0) → AW G mm_X1_breakUp b 33 [(0, vR v0), (1, vI 0)] [] h Q) ∧ ((¬ ((h v0 8) ≤ 0)) → (1 ≤ b.1) ∧ (6 ≤ b.2) ∧ Runs G mm_X1_finishOldest [vR v0, vI 2, vI 0] h (fun r h' => AW G mm_X1_breakUp (b.1 - 1, b.2 - 6) 25 [(0, vR v0), (1, vI v1)] (r.toList ++ []) h' Q)))) : AW G mm_X1_breakUp b 7 [(0, vR v0), (1, vI v1)] [] h Q := by
  refine aw_iload_n 1 dX1_breakUp_7 rfl rfl ?_
  refine aw_iconst dX1_breakUp_8 ⟨by decide, by decide⟩ ?_
  refine aw_icmp_ge (tgt := 31) dX1_breakUp_9 (by decide) (fun hc => ?_) (fun hc => ?_)
  · have k := k.1 hc
    refine aw_iconst dX1_breakUp_31 ⟨by decide, by decide⟩ ?_
    refine aw_istore_n dX1_breakUp_32 rfl (by decide) ?_
    exact aw_sub [1, 0] rfl k
  · have k := k.2 hc
    refine aw_aload_n 0 dX1_breakUp_12 rfl rfl ?_
    obtain ⟨o1, k⟩ := k
    refine aw_getI dX1_breakUp_13 fl_X1_35 rfl o1 (x := (h v0 8)) rfl ?_
    refine aw_if_le (tgt := 31) dX1_breakUp_16 (by decide) (fun hc => ?_) (fun hc => ?_)
    · have k := k.1 hc
      refine aw_iconst dX1_breakUp_31 ⟨by decide, by decide⟩ ?_
      refine aw_istore_n dX1_breakUp_32 rfl (by decide) ?_
      exact aw_sub [1, 0] rfl k
    · have k := k.2 hc
      refine aw_aload_n 0 dX1_breakUp_19 rfl rfl ?_
      refine aw_iconst dX1_breakUp_20 ⟨by decide, by decide⟩ ?_
      refine aw_iconst dX1_breakUp_21 ⟨by decide, by decide⟩ ?_
      obtain ⟨o2, k⟩ := k
      obtain ⟨o3, k⟩ := k
      refine aw_callV (M' := mm_X1_finishOldest) 1 [vI 2, vI 0] [] lk_X1_236 ⟨_, rfl, rfl⟩ dX1_breakUp_22 rfl (Nat.le_of_ble_eq_true rfl) ⟨by decide, by decide, o2, o3⟩ o1 ?_
      exact k
set_option maxRecDepth 20000 in
theorem sg_X1_breakUp_33 {G : GG} {b : Nat × Nat} {Q : Option VV → Hp → Prop} {v0 v1 : Int} {h : Hp} (k : (h v0 (-1) = 2) ∧ (((h v0 10) ≤ v1) → ∀ h1, h1 = wr h v0 10 0 → Q none h1) ∧ ((¬ ((h v0 10) ≤ v1)) → (inI (h 0 0 + 1)) ∧ (1 ≤ b.1) ∧ (6 ≤ b.2) ∧ ∀ a7, a7 = h 0 0 + 1 → ∀ h1, h1 = nw h 5 0 → (h1 (h v0 4) (-1) = 20) ∧ (0 ≤ v1) ∧ (v1 < h1 (h v0 4) (-2)) ∧ Runs G mm_X4_init [vR a7, vI (h v0 0), vI 5, vI (-1), vI 2, vI (h1 (h v0 4) v1)] h1 (fun r h' => AW G mm_X1_breakUp (b.1 - 1, b.2 - 6) 65 [(0, vR v0), (1, vI v1)] (r.toList ++ [vR a7, vR (h v0 1)]) h' Q))) : AW G mm_X1_breakUp b 33 [(0, vR v0), (1, vI v1)] [] h Q := by
  refine aw_iload_n 1 dX1_breakUp_33 rfl rfl ?_
  refine aw_aload_n 0 dX1_breakUp_34 rfl rfl ?_
  obtain ⟨o1, k⟩ := k
  refine aw_getI dX1_breakUp_35 fl_X1_41 rfl o1 (x := (h v0 10)) rfl ?_
  refine aw_icmp_ge (tgt := 74) dX1_breakUp_38 (by decide) (fun hc => ?_) (fun hc => ?_)
  · have k := k.1 hc
    refine aw_aload_n 0 dX1_breakUp_74 rfl rfl ?_
    refine aw_iconst dX1_breakUp_75 ⟨by decide, by decide⟩ ?_
    refine aw_putI dX1_breakUp_76 fl_X1_41 (fun q hq hf => by cases hq; cases hf) rfl rfl o1 ?_
    refine aw_hp (fun h1 e2 => ?_)
    have k := k h1 e2
    exact aw_vret dX1_breakUp_79 rfl k
  · have k := k.2 hc
    refine aw_aload_n 0 dX1_breakUp_41 rfl rfl ?_
    refine aw_getR dX1_breakUp_42 fl_X1_63 rfl o1 (x := (h v0 1)) rfl ?_
    refine aw_use (fun _ _ oh3 => ?_)
    obtain ⟨o4, k⟩ := k
    obtain ⟨o5, k⟩ := k
    obtain ⟨o6, k⟩ := k
    refine aw_new 4 nl_X1_172 dX1_breakUp_45 o4 o5 o6 ?_
    refine aw_hq (fun a7 e8 h1 e9 => ?_)
    have k := k a7 e8 h1 e9
    have q10 := sh_f e9 e8
    refine aw_dup dX1_breakUp_48 rfl ?_
    refine aw_aload_n 0 dX1_breakUp_49 rfl rfl ?_
    have q11 := sh_n e9 oh3 o1 (by decide)
    refine aw_getI dX1_breakUp_50 fl_X1_60 rfl q11 (x := (h v0 0)) (rd_n e9 oh3 o1 (by decide) 0) ?_
    refine aw_iconst dX1_breakUp_53 ⟨by decide, by decide⟩ ?_
    refine aw_iconst dX1_breakUp_54 ⟨by decide, by decide⟩ ?_
    refine aw_iconst dX1_breakUp_55 ⟨by decide, by decide⟩ ?_
    refine aw_aload_n 0 dX1_breakUp_56 rfl rfl ?_
    refine aw_getR dX1_breakUp_57 fl_X1_17 rfl q11 (x := (h v0 4)) (rd_n e9 oh3 o1 (by decide) 4) ?_
    refine aw_iload_n 1 dX1_breakUp_60 rfl rfl ?_
    obtain ⟨o12, k⟩ := k
    obtain ⟨o13, k⟩ := k
    obtain ⟨o14, k⟩ := k
    refine aw_iald dX1_breakUp_61 o12 o13 o14 (x := (h1 (h v0 4) v1)) rfl ?_
    refine aw_use (fun _ _ oz15 => ?_)
    refine aw_callI (M' := mm_X4_init) [vI (h v0 0), vI 5, vI (-1), vI 2, vI (h1 (h v0 4) v1)] [vR a7, vR (h v0 1)] lk_X1_174 dX1_breakUp_62 rfl (Nat.le_of_ble_eq_true rfl) ⟨by decide, by decide, Nat.zero_le _, Nat.zero_le _⟩ (nz_s oz15 q10 (by decide)) ?_
    exact k
set_option maxRecDepth 20000 in
theorem sg_X1_breakUp_25 {G : GG} {b : Nat × Nat} {Q : Option VV → Hp → Prop} {v0 v1 : Int} {h : Hp} (k : (inI (v1 + 1)) ∧ AW G mm_X1_breakUp b 7 [(0, vR v0), (1, vI (v1 + 1))] [] h Q) : AW G mm_X1_breakUp b 25 [(0, vR v0), (1, vI v1)] [] h Q := by
  obtain ⟨o1, k⟩ := k
  refine aw_iinc 1 dX1_breakUp_25 rfl o1 (by decide) ?_
  refine aw_goto (tgt := 7) dX1_breakUp_28 (by decide) ?_
  exact aw_sub [1, 0] rfl k
set_option maxRecDepth 20000 in
theorem sg_X1_breakUp_65 {G : GG} {b : Nat × Nat} {Q : Option VV → Hp → Prop} {v0 v1 s0 s1 : Int} {h : Hp} (k : (h s1 (-1) = 3) ∧ Runs G mm_X2_pushNotice [vR s1, vR s0] h (fun r h' => AW G mm_X1_breakUp b 68 [(0, vR v0), (1, vI v1)] (r.toList ++ []) h' Q)) : AW G mm_X1_breakUp b 65 [(0, vR v0), (1, vI v1)] [vR s0, vR s1] h Q := by
  obtain ⟨o1, k⟩ := k
  refine aw_callV (M' := mm_X2_pushNotice) 2 [vR s0] [] lk_X1_177 ⟨_, rfl, rfl⟩ dX1_breakUp_65 rfl (Nat.le_of_ble_eq_true rfl) ⟨by decide, by decide, Nat.zero_le _, Nat.zero_le _⟩ o1 ?_
  exact k
set_option maxRecDepth 20000 in
theorem sg_X1_breakUp_68 {G : GG} {b : Nat × Nat} {Q : Option VV → Hp → Prop} {v0 v1 : Int} {h : Hp} (k : (inI (v1 + 1)) ∧ AW G mm_X1_breakUp b 33 [(0, vR v0), (1, vI (v1 + 1))] [] h Q) : AW G mm_X1_breakUp b 68 [(0, vR v0), (1, vI v1)] [] h Q := by
  obtain ⟨o1, k⟩ := k
  refine aw_iinc 1 dX1_breakUp_68 rfl o1 (by decide) ?_
  refine aw_goto (tgt := 33) dX1_breakUp_71 (by decide) ?_
  exact aw_sub [1, 0] rfl k
set_option maxRecDepth 20000 in
theorem sg_X1_bringHome_0 {G : GG} {b : Nat × Nat} {Q : Option VV → Hp → Prop} {v0 v1 : Int} {h : Hp} (k : (h v0 (-1) = 2) ∧ (h (h v0 3) (-1) = 38) ∧ (0 < h (h v0 3) (-2)) ∧ (h (h (h v0 3) 0) (-1) = 9) ∧ ((¬ ((h (h (h v0 3) 0) 1) = 2 ∨ (h (h (h v0 3) 0) 1) = 3 ∨ (h (h (h v0 3) 0) 1) = 4)) → (1 ≤ b.1) ∧ (6 ≤ b.2) ∧ Runs G mm_X1_finishOldest [vR v0, vI 0, vI v1] h (fun r h' => AW G mm_X1_bringHome (b.1 - 1, b.2 - 6) 39 [] (r.toList ++ []) h' Q)) ∧ (((h (h (h v0 3) 0) 1) = 2 ∨ (h (h (h v0 3) 0) 1) = 3 ∨ (h (h (h v0 3) 0) 1) = 4) → (h (h v0 1) (-1) = 3) ∧ (h (h (h v0 1) 0) (-1) = 20) ∧ (0 ≤ (h (h (h v0 3) 0) 6)) ∧ ((h (h (h v0 3) 0) 6) < h (h (h v0 1) 0) (-2)) ∧ ∀ h1, h1 = wr h (h (h v0 1) 0) (h (h (h v0 3) 0) 6) v1 → (1 ≤ b.1) ∧ (6 ≤ b.2) ∧ Runs G mm_X1_finishOldest [vR v0, vI 0, vI v1] h1 (fun r h' => AW G mm_X1_bringHome (b.1 - 1, b.2 - 6) 39 [] (r.toList ++ []) h' Q))) : AW G mm_X1_bringHome b 0 [(0, vR v0), (1, vI v1)] [] h Q := by
  refine aw_aload_n 0 dX1_bringHome_0 rfl rfl ?_
  obtain ⟨o1, k⟩ := k
  refine aw_getR dX1_bringHome_1 fl_X1_11 rfl o1 (x := (h v0 3)) rfl ?_
  refine aw_iconst dX1_bringHome_4 ⟨by decide, by decide⟩ ?_
  obtain ⟨o2, k⟩ := k
  obtain ⟨o3, k⟩ := k
  refine aw_aald 7 8 aq_8 dX1_bringHome_5 o2 (by decide) o3 (x := (h (h v0 3) 0)) rfl ?_
  obtain ⟨o4, k⟩ := k
  refine aw_getI dX1_bringHome_6 fl_X1_94 rfl o4 (x := (h (h (h v0 3) 0) 1)) rfl ?_
  refine aw_callSN (M' := mm_X9_isFetch) [vI (h (h (h v0 3) 0) 1)] [] lk_X1_83 dX1_bringHome_9 rfl (Nat.le_of_ble_eq_true rfl) ⟨by decide, by decide, Nat.zero_le _, Nat.zero_le _⟩ ?_
  refine pu_X9_isFetch ?_
  refine aw_if_eq (tgt := 33) dX1_bringHome_12 (by decide) (fun hc => ?_) (fun hc => ?_)
  · have k := k.1 (b2i_0.mp hc)
    refine aw_aload_n 0 dX1_bringHome_33 rfl rfl ?_
    refine aw_iconst dX1_bringHome_34 ⟨by decide, by decide⟩ ?_
    refine aw_iload_n 1 dX1_bringHome_35 rfl rfl ?_
    obtain ⟨o5, k⟩ := k
    obtain ⟨o6, k⟩ := k
    refine aw_callV (M' := mm_X1_finishOldest) 1 [vI 0, vI v1] [] lk_X1_236 ⟨_, rfl, rfl⟩ dX1_bringHome_36 rfl (Nat.le_of_ble_eq_true rfl) ⟨by decide, by decide, o5, o6⟩ o1 ?_
    exact k.mono (fun _ _ z => aw_sub [] rfl z)
  · have k := k.2 (b2i_n.mp hc)
    refine aw_aload_n 0 dX1_bringHome_15 rfl rfl ?_
    refine aw_getR dX1_bringHome_16 fl_X1_63 rfl o1 (x := (h v0 1)) rfl ?_
    obtain ⟨o7, k⟩ := k
    refine aw_getR dX1_bringHome_19 fl_X1_166 rfl o7 (x := (h (h v0 1) 0)) rfl ?_
    refine aw_aload_n 0 dX1_bringHome_22 rfl rfl ?_
    refine aw_getR dX1_bringHome_23 fl_X1_11 rfl o1 (x := (h v0 3)) rfl ?_
    refine aw_iconst dX1_bringHome_26 ⟨by decide, by decide⟩ ?_
    refine aw_aald 7 8 aq_8 dX1_bringHome_27 o2 (by decide) o3 (x := (h (h v0 3) 0)) rfl ?_
    refine aw_getI dX1_bringHome_28 fl_X1_109 rfl o4 (x := (h (h (h v0 3) 0) 6)) rfl ?_
    refine aw_iload_n 1 dX1_bringHome_31 rfl rfl ?_
    obtain ⟨o8, k⟩ := k
    obtain ⟨o9, k⟩ := k
    obtain ⟨o10, k⟩ := k
    refine aw_iast dX1_bringHome_32 o8 o9 o10 ?_
    refine aw_hp (fun h1 e11 => ?_)
    have k := k h1 e11
    refine aw_aload_n 0 dX1_bringHome_33 rfl rfl ?_
    refine aw_iconst dX1_bringHome_34 ⟨by decide, by decide⟩ ?_
    refine aw_iload_n 1 dX1_bringHome_35 rfl rfl ?_
    obtain ⟨o12, k⟩ := k
    obtain ⟨o13, k⟩ := k
    have q14 := sh_w e11 o9 o1
    refine aw_callV (M' := mm_X1_finishOldest) 1 [vI 0, vI v1] [] lk_X1_236 ⟨_, rfl, rfl⟩ dX1_bringHome_36 rfl (Nat.le_of_ble_eq_true rfl) ⟨by decide, by decide, o12, o13⟩ q14 ?_
    exact k.mono (fun _ _ z => aw_sub [] rfl z)
theorem rn_X1_bringHome {G : GG} {Q : Option VV → Hp → Prop} {v0 v1 : Int} {h : Hp} (k : (h v0 (-1) = 2) ∧ (h (h v0 3) (-1) = 38) ∧ (0 < h (h v0 3) (-2)) ∧ (h (h (h v0 3) 0) (-1) = 9) ∧ ((¬ ((h (h (h v0 3) 0) 1) = 2 ∨ (h (h (h v0 3) 0) 1) = 3 ∨ (h (h (h v0 3) 0) 1) = 4)) → (1 ≤ 1) ∧ (6 ≤ 6) ∧ Runs G mm_X1_finishOldest [vR v0, vI 0, vI v1] h (fun r h' => AW G mm_X1_bringHome (1 - 1, 6 - 6) 39 [] (r.toList ++ []) h' Q)) ∧ (((h (h (h v0 3) 0) 1) = 2 ∨ (h (h (h v0 3) 0) 1) = 3 ∨ (h (h (h v0 3) 0) 1) = 4) → (h (h v0 1) (-1) = 3) ∧ (h (h (h v0 1) 0) (-1) = 20) ∧ (0 ≤ (h (h (h v0 3) 0) 6)) ∧ ((h (h (h v0 3) 0) 6) < h (h (h v0 1) 0) (-2)) ∧ ∀ h1, h1 = wr h (h (h v0 1) 0) (h (h (h v0 3) 0) 6) v1 → (1 ≤ 1) ∧ (6 ≤ 6) ∧ Runs G mm_X1_finishOldest [vR v0, vI 0, vI v1] h1 (fun r h' => AW G mm_X1_bringHome (1 - 1, 6 - 6) 39 [] (r.toList ++ []) h' Q))) : Runs G mm_X1_bringHome [vR v0, vI v1] h Q := Runs.of (by decide +kernel) (Nat.le_of_ble_eq_true rfl) (sg_X1_bringHome_0 (b := (1, 6)) k)
set_option maxRecDepth 20000 in
theorem sg_X1_bringHome_39 {G : GG} {b : Nat × Nat} {Q : Option VV → Hp → Prop} {h : Hp} (k : Q none h) : AW G mm_X1_bringHome b 39 [] [] h Q := by
  exact aw_vret dX1_bringHome_39 rfl k
set_option maxRecDepth 20000 in
theorem sg_X1_complain_0 {G : GG} {b : Nat × Nat} {Q : Option VV → Hp → Prop} {v0 : Int} {h : Hp} (k : (h v0 (-1) = 2) ∧ ((¬ (h v0 13) = 0) → Q none h) ∧ (((h v0 13) = 0) → Runs G mm_X1_answer [vR v0, vI 2, vI (h v0 9), vI 0] h (fun r h' => AW G mm_X1_complain b 17 [(0, vR v0)] (r.toList ++ []) h' Q))) : AW G mm_X1_complain b 0 [(0, vR v0)] [] h Q := by
  refine aw_aload_n 0 dX1_complain_0 rfl rfl ?_
  obtain ⟨o1, k⟩ := k
  refine aw_getI dX1_complain_1 fl_X1_50 rfl o1 (x := (h v0 13)) rfl ?_
  refine aw_if_ne (tgt := 22) dX1_complain_4 (by decide) (fun hc => ?_) (fun hc => ?_)
  · have k := k.1 hc
    exact aw_vret dX1_complain_22 rfl k
  · have k := k.2 hc
    refine aw_aload_n 0 dX1_complain_7 rfl rfl ?_
    refine aw_iconst dX1_complain_8 ⟨by decide, by decide⟩ ?_
    refine aw_aload_n 0 dX1_complain_9 rfl rfl ?_
    refine aw_getI dX1_complain_10 fl_X1_38 rfl o1 (x := (h v0 9)) rfl ?_
    refine aw_iconst dX1_complain_13 ⟨by decide, by decide⟩ ?_
    refine aw_callV (M' := mm_X1_answer) 1 [vI 2, vI (h v0 9), vI 0] [] lk_X1_152 ⟨_, rfl, rfl⟩ dX1_complain_14 rfl (Nat.le_of_ble_eq_true rfl) ⟨by decide, by decide, Nat.zero_le _, Nat.zero_le _⟩ o1 ?_
    exact k
theorem rn_X1_complain {G : GG} {Q : Option VV → Hp → Prop} {v0 : Int} {h : Hp} (k : (h v0 (-1) = 2) ∧ ((¬ (h v0 13) = 0) → Q none h) ∧ (((h v0 13) = 0) → Runs G mm_X1_answer [vR v0, vI 2, vI (h v0 9), vI 0] h (fun r h' => AW G mm_X1_complain (0, 0) 17 [(0, vR v0)] (r.toList ++ []) h' Q))) : Runs G mm_X1_complain [vR v0] h Q := Runs.of (by decide +kernel) (Nat.le_of_ble_eq_true rfl) (sg_X1_complain_0 (b := (0, 0)) k)
set_option maxRecDepth 20000 in
theorem sg_X1_complain_17 {G : GG} {b : Nat × Nat} {Q : Option VV → Hp → Prop} {v0 : Int} {h : Hp} (k : (h v0 (-1) = 2) ∧ ∀ h1, h1 = wr h v0 13 1 → Q none h1) : AW G mm_X1_complain b 17 [(0, vR v0)] [] h Q := by
  refine aw_aload_n 0 dX1_complain_17 rfl rfl ?_
  refine aw_iconst dX1_complain_18 ⟨by decide, by decide⟩ ?_
  obtain ⟨o1, k⟩ := k
  refine aw_putZ dX1_complain_19 fl_X1_50 (fun q hq hf => by cases hq; cases hf) rfl rfl (by decide) o1 ?_
  refine aw_hp (fun h1 e2 => ?_)
  have k := k h1 e2
  exact aw_vret dX1_complain_22 rfl k
set_option maxRecDepth 20000 in
theorem sg_X1_finishBelow_0 {G : GG} {b : Nat × Nat} {Q : Option VV → Hp → Prop} {v0 v1 : Int} {h : Hp} (k : AW G mm_X1_finishBelow b 2 [(0, vR v0), (1, vI v1), (2, vI 0)] [] h Q) : AW G mm_X1_finishBelow b 0 [(0, vR v0), (1, vI v1)] [] h Q := by
  refine aw_iconst dX1_finishBelow_0 ⟨by decide, by decide⟩ ?_
  refine aw_istore_n dX1_finishBelow_1 rfl (by decide) ?_
  exact aw_sub [1, 2, 0] rfl k
theorem rn_X1_finishBelow {G : GG} {Q : Option VV → Hp → Prop} {v0 v1 : Int} {h : Hp} (k : AW G mm_X1_finishBelow (4, 24) 2 [(0, vR v0), (1, vI v1), (2, vI 0)] [] h Q) : Runs G mm_X1_finishBelow [vR v0, vI v1] h Q := Runs.of (by decide +kernel) (Nat.le_of_ble_eq_true rfl) (sg_X1_finishBelow_0 (b := (4, 24)) k)
set_option maxRecDepth 20000 in
theorem sg_X1_finishBelow_2 {G : GG} {b : Nat × Nat} {Q : Option VV → Hp → Prop} {v0 v1 v2 : Int} {h : Hp} (k : ((4 ≤ v2) → Q (some (vI 1)) h) ∧ ((¬ (4 ≤ v2)) → (h v0 (-1) = 2) ∧ (((h v0 8) ≤ 0) → Q (some (vI 1)) h) ∧ ((¬ ((h v0 8) ≤ 0)) → (h (h v0 3) (-1) = 38) ∧ (0 < h (h v0 3) (-2)) ∧ (h (h (h v0 3) 0) (-1) = 9) ∧ ((v1 ≤ (h (h (h v0 3) 0) 0)) → Q (some (vI 1)) h) ∧ ((¬ (v1 ≤ (h (h (h v0 3) 0) 0))) → ((¬ ((h (h (h v0 3) 0) 1) = 2 ∨ (h (h (h v0 3) 0) 1) = 3 ∨ (h (h (h v0 3) 0) 1) = 4)) → (1 ≤ b.1) ∧ (6 ≤ b.2) ∧ Runs G mm_X1_finishOldest [vR v0, vI 0, vI 0] h (fun r h' => AW G mm_X1_finishBelow (b.1 - 1, b.2 - 6) 50 [(0, vR v0), (1, vI v1), (2, vI v2)] (r.toList ++ []) h' Q)) ∧ (((h (h (h v0 3) 0) 1) = 2 ∨ (h (h (h v0 3) 0) 1) = 3 ∨ (h (h (h v0 3) 0) 1) = 4) → Q (some (vI 0)) h))))) : AW G mm_X1_finishBelow b 2 [(0, vR v0), (1, vI v1), (2, vI v2)] [] h Q := by
  refine aw_iload_n 2 dX1_finishBelow_2 rfl rfl ?_
  refine aw_iconst dX1_finishBelow_3 ⟨by decide, by decide⟩ ?_
  refine aw_icmp_ge (tgt := 56) dX1_finishBelow_4 (by decide) (fun hc => ?_) (fun hc => ?_)
  · have k := k.1 hc
    refine aw_iconst dX1_finishBelow_56 ⟨by decide, by decide⟩ ?_
    exact aw_zret dX1_finishBelow_57 rfl (by decide) k
  · have k := k.2 hc
    refine aw_aload_n 0 dX1_finishBelow_7 rfl rfl ?_
    obtain ⟨o1, k⟩ := k
    refine aw_getI dX1_finishBelow_8 fl_X1_35 rfl o1 (x := (h v0 8)) rfl ?_
    refine aw_if_le (tgt := 56) dX1_finishBelow_11 (by decide) (fun hc => ?_) (fun hc => ?_)
    · have k := k.1 hc
      refine aw_iconst dX1_finishBelow_56 ⟨by decide, by decide⟩ ?_
      exact aw_zret dX1_finishBelow_57 rfl (by decide) k
    · have k := k.2 hc
      refine aw_aload_n 0 dX1_finishBelow_14 rfl rfl ?_
      refine aw_getR dX1_finishBelow_15 fl_X1_11 rfl o1 (x := (h v0 3)) rfl ?_
      refine aw_iconst dX1_finishBelow_18 ⟨by decide, by decide⟩ ?_
      obtain ⟨o2, k⟩ := k
      obtain ⟨o3, k⟩ := k
      refine aw_aald 7 8 aq_8 dX1_finishBelow_19 o2 (by decide) o3 (x := (h (h v0 3) 0)) rfl ?_
      obtain ⟨o4, k⟩ := k
      refine aw_getI dX1_finishBelow_20 fl_X1_91 rfl o4 (x := (h (h (h v0 3) 0) 0)) rfl ?_
      refine aw_iload_n 1 dX1_finishBelow_23 rfl rfl ?_
      refine aw_icmp_ge (tgt := 56) dX1_finishBelow_24 (by decide) (fun hc => ?_) (fun hc => ?_)
      · have k := k.1 hc
        refine aw_iconst dX1_finishBelow_56 ⟨by decide, by decide⟩ ?_
        exact aw_zret dX1_finishBelow_57 rfl (by decide) k
      · have k := k.2 hc
        refine aw_aload_n 0 dX1_finishBelow_27 rfl rfl ?_
        refine aw_getR dX1_finishBelow_28 fl_X1_11 rfl o1 (x := (h v0 3)) rfl ?_
        refine aw_iconst dX1_finishBelow_31 ⟨by decide, by decide⟩ ?_
        refine aw_aald 7 8 aq_8 dX1_finishBelow_32 o2 (by decide) o3 (x := (h (h v0 3) 0)) rfl ?_
        refine aw_getI dX1_finishBelow_33 fl_X1_94 rfl o4 (x := (h (h (h v0 3) 0) 1)) rfl ?_
        refine aw_callSN (M' := mm_X9_isFetch) [vI (h (h (h v0 3) 0) 1)] [] lk_X1_83 dX1_finishBelow_36 rfl (Nat.le_of_ble_eq_true rfl) ⟨by decide, by decide, Nat.zero_le _, Nat.zero_le _⟩ ?_
        refine pu_X9_isFetch ?_
        refine aw_if_eq (tgt := 44) dX1_finishBelow_39 (by decide) (fun hc => ?_) (fun hc => ?_)
        · have k := k.1 (b2i_0.mp hc)
          refine aw_aload_n 0 dX1_finishBelow_44 rfl rfl ?_
          refine aw_iconst dX1_finishBelow_45 ⟨by decide, by decide⟩ ?_
          refine aw_iconst dX1_finishBelow_46 ⟨by decide, by decide⟩ ?_
          obtain ⟨o5, k⟩ := k
          obtain ⟨o6, k⟩ := k
          refine aw_callV (M' := mm_X1_finishOldest) 1 [vI 0, vI 0] [] lk_X1_236 ⟨_, rfl, rfl⟩ dX1_finishBelow_47 rfl (Nat.le_of_ble_eq_true rfl) ⟨by decide, by decide, o5, o6⟩ o1 ?_
          exact k
        · have k := k.2 (b2i_n.mp hc)
          refine aw_iconst dX1_finishBelow_42 ⟨by decide, by decide⟩ ?_
          exact aw_zret dX1_finishBelow_43 rfl (by decide) k
set_option maxRecDepth 20000 in
theorem sg_X1_finishBelow_50 {G : GG} {b : Nat × Nat} {Q : Option VV → Hp → Prop} {v0 v1 v2 : Int} {h : Hp} (k : (inI (v2 + 1)) ∧ AW G mm_X1_finishBelow b 2 [(0, vR v0), (1, vI v1), (2, vI (v2 + 1))] [] h Q) : AW G mm_X1_finishBelow b 50 [(0, vR v0), (1, vI v1), (2, vI v2)] [] h Q := by
  obtain ⟨o1, k⟩ := k
  refine aw_iinc 2 dX1_finishBelow_50 rfl o1 (by decide) ?_
  refine aw_goto (tgt := 2) dX1_finishBelow_53 (by decide) ?_
  exact aw_sub [1, 2, 0] rfl k
set_option maxRecDepth 20000 in
theorem sg_X1_finishOldest_0 {G : GG} {b : Nat × Nat} {Q : Option VV → Hp → Prop} {v0 v1 v2 : Int} {h : Hp} (k : (h v0 (-1) = 2) ∧ ((¬ (h v0 8) = 0) → (h (h v0 3) (-1) = 38) ∧ (0 < h (h v0 3) (-2)) ∧ AW G mm_X1_finishOldest b 18 [(0, vR v0), (1, vI v1), (2, vI v2), (3, vR (h (h v0 3) 0)), (4, vI 1)] [] h Q) ∧ (((h v0 8) = 0) → Q none h)) : AW G mm_X1_finishOldest b 0 [(0, vR v0), (1, vI v1), (2, vI v2)] [] h Q := by
  refine aw_aload_n 0 dX1_finishOldest_0 rfl rfl ?_
  obtain ⟨o1, k⟩ := k
  refine aw_getI dX1_finishOldest_1 fl_X1_35 rfl o1 (x := (h v0 8)) rfl ?_
  refine aw_if_ne (tgt := 8) dX1_finishOldest_4 (by decide) (fun hc => ?_) (fun hc => ?_)
  · have k := k.1 hc
    refine aw_aload_n 0 dX1_finishOldest_8 rfl rfl ?_
    refine aw_getR dX1_finishOldest_9 fl_X1_11 rfl o1 (x := (h v0 3)) rfl ?_
    refine aw_iconst dX1_finishOldest_12 ⟨by decide, by decide⟩ ?_
    obtain ⟨o2, k⟩ := k
    obtain ⟨o3, k⟩ := k
    refine aw_aald 7 8 aq_8 dX1_finishOldest_13 o2 (by decide) o3 (x := (h (h v0 3) 0)) rfl ?_
    refine aw_astore_n dX1_finishOldest_14 rfl (by decide) ?_
    refine aw_iconst dX1_finishOldest_15 ⟨by decide, by decide⟩ ?_
    refine aw_istore dX1_finishOldest_16 (by decide) ?_
    exact aw_sub [2, 3, 4, 1, 0] rfl k
  · have k := k.2 hc
    exact aw_vret dX1_finishOldest_7 rfl k
theorem rn_X1_finishOldest {G : GG} {Q : Option VV → Hp → Prop} {v0 v1 v2 : Int} {h : Hp} (k : (h v0 (-1) = 2) ∧ ((¬ (h v0 8) = 0) → (h (h v0 3) (-1) = 38) ∧ (0 < h (h v0 3) (-2)) ∧ AW G mm_X1_finishOldest (1, 6) 18 [(0, vR v0), (1, vI v1), (2, vI v2), (3, vR (h (h v0 3) 0)), (4, vI 1)] [] h Q) ∧ (((h v0 8) = 0) → Q none h)) : Runs G mm_X1_finishOldest [vR v0, vI v1, vI v2] h Q := Runs.of (by decide +kernel) (Nat.le_of_ble_eq_true rfl) (sg_X1_finishOldest_0 (b := (1, 6)) k)
set_option maxRecDepth 20000 in
theorem sg_X1_finishOldest_18 {G : GG} {b : Nat × Nat} {Q : Option VV → Hp → Prop} {v0 v1 v2 v3 v4 : Int} {h : Hp} (k : (h v0 (-1) = 2) ∧ (((h v0 8) ≤ v4) → (inI ((h v0 8) - 1)) ∧ ∀ h1, h1 = wr h v0 8 ((h v0 8) - 1) → (h (h v0 3) (-1) = 38) ∧ (0 ≤ ((h v0 8) - 1)) ∧ (((h v0 8) - 1) < h (h v0 3) (-2)) ∧ (h v3 (-1) = 9) ∧ ∀ h2, h2 = wr h1 (h v0 3) ((h v0 8) - 1) v3 → ∀ h3, h3 = wr h2 v0 11 0 → ∀ h4, h4 = wr h3 v0 12 0 → (inI (h4 0 0 + 1)) ∧ (1 ≤ b.1) ∧ (6 ≤ b.2) ∧ ∀ a21, a21 = h4 0 0 + 1 → ∀ h5, h5 = nw h4 5 0 → Runs G mm_X4_init [vR a21, vI (h v0 0), vI (h v3 1), vI (h v3 0), vI v1, vI v2] h5 (fun r h' => AW G mm_X1_finishOldest (b.1 - 1, b.2 - 6) 104 [] (r.toList ++ [vR a21, vR (h v0 1)]) h' Q)) ∧ ((¬ ((h v0 8) ≤ v4)) → (inI (v4 - 1)) ∧ (h (h v0 3) (-1) = 38) ∧ (0 ≤ v4) ∧ (v4 < h (h v0 3) (-2)) ∧ (0 ≤ (v4 - 1)) ∧ ((v4 - 1) < h (h v0 3) (-2)) ∧ (h (h (h v0 3) v4) (-1) = 9) ∧ ∀ h1, h1 = wr h (h v0 3) (v4 - 1) (h (h v0 3) v4) → (inI (v4 + 1)) ∧ AW G mm_X1_finishOldest b 18 [(0, vR v0), (1, vI v1), (2, vI v2), (3, vR v3), (4, vI (v4 + 1))] [] h1 Q)) : AW G mm_X1_finishOldest b 18 [(0, vR v0), (1, vI v1), (2, vI v2), (3, vR v3), (4, vI v4)] [] h Q := by
  refine aw_iload 4 dX1_finishOldest_18 rfl ?_
  refine aw_aload_n 0 dX1_finishOldest_20 rfl rfl ?_
  obtain ⟨o1, k⟩ := k
  refine aw_getI dX1_finishOldest_21 fl_X1_35 rfl o1 (x := (h v0 8)) rfl ?_
  refine aw_icmp_ge (tgt := 49) dX1_finishOldest_24 (by decide) (fun hc => ?_) (fun hc => ?_)
  · have k := k.1 hc
    refine aw_aload_n 0 dX1_finishOldest_49 rfl rfl ?_
    refine aw_dup dX1_finishOldest_50 rfl ?_
    refine aw_getI dX1_finishOldest_51 fl_X1_35 rfl o1 (x := (h v0 8)) rfl ?_
    refine aw_iconst dX1_finishOldest_54 ⟨by decide, by decide⟩ ?_
    obtain ⟨o2, k⟩ := k
    refine aw_isub dX1_finishOldest_55 o2 ?_
    refine aw_putI dX1_finishOldest_56 fl_X1_35 (fun q hq hf => by cases hq; cases hf) rfl rfl o1 ?_
    refine aw_hp (fun h1 e3 => ?_)
    have k := k h1 e3
    refine aw_aload_n 0 dX1_finishOldest_59 rfl rfl ?_
    have q4 := sh_w e3 (by decide) o1
    refine aw_getR dX1_finishOldest_60 fl_X1_11 rfl q4 (x := (h v0 3)) (rd_k e3 3 (by decide)) ?_
    refine aw_aload_n 0 dX1_finishOldest_63 rfl rfl ?_
    refine aw_getI dX1_finishOldest_64 fl_X1_35 rfl q4 (x := ((h v0 8) - 1)) (rd_e e3) ?_
    refine aw_aload_n 3 dX1_finishOldest_67 rfl rfl ?_
    obtain ⟨o5, k⟩ := k
    obtain ⟨o6, k⟩ := k
    obtain ⟨o7, k⟩ := k
    obtain ⟨o8, k⟩ := k
    have q9 := sh_w e3 (by decide) o5
    have q10 := sh_w e3 (by decide) o8
    refine aw_aast 7 8 aq_8 dX1_finishOldest_68 q9 o6 (lt_l (ln_w e3 (h v0 3) (by decide)) o7) q10 ?_
    refine aw_hp (fun h2 e11 => ?_)
    have k := k h2 e11
    refine aw_aload_n 0 dX1_finishOldest_69 rfl rfl ?_
    refine aw_iconst dX1_finishOldest_70 ⟨by decide, by decide⟩ ?_
    have q12 := sh_w e11 o6 q4
    refine aw_putI dX1_finishOldest_71 fl_X1_44 (fun q hq hf => by cases hq; cases hf) rfl rfl q12 ?_
    refine aw_hp (fun h3 e13 => ?_)
    have k := k h3 e13
    refine aw_aload_n 0 dX1_finishOldest_74 rfl rfl ?_
    refine aw_iconst dX1_finishOldest_75 ⟨by decide, by decide⟩ ?_
    have q14 := sh_w e13 (by decide) q12
    refine aw_putI dX1_finishOldest_76 fl_X1_47 (fun q hq hf => by cases hq; cases hf) rfl rfl q14 ?_
    refine aw_hp (fun h4 e15 => ?_)
    have k := k h4 e15
    refine aw_aload_n 0 dX1_finishOldest_79 rfl rfl ?_
    have q16 := sh_w e15 (by decide) q14
    refine aw_getR dX1_finishOldest_80 fl_X1_63 rfl q16 (x := (h v0 1)) ((rd_k e15 1 (by decide)).trans ((rd_k e13 1 (by decide)).trans ((rd_a e11 v0 1 (ne_sh q9 q4 (by decide))).trans (rd_k e3 1 (by decide))))) ?_
    refine aw_use (fun _ _ oh17 => ?_)
    obtain ⟨o18, k⟩ := k
    obtain ⟨o19, k⟩ := k
    obtain ⟨o20, k⟩ := k
    refine aw_new 4 nl_X1_172 dX1_finishOldest_83 o18 o19 o20 ?_
    refine aw_hq (fun a21 e22 h5 e23 => ?_)
    have k := k a21 e22 h5 e23
    have q24 := sh_f e23 e22
    refine aw_dup dX1_finishOldest_86 rfl ?_
    refine aw_aload_n 0 dX1_finishOldest_87 rfl rfl ?_
    have q25 := sh_n e23 oh17 q16 (by decide)
    refine aw_getI dX1_finishOldest_88 fl_X1_60 rfl q25 (x := (h v0 0)) ((rd_n e23 oh17 q16 (by decide) 0).trans ((rd_k e15 0 (by decide)).trans ((rd_k e13 0 (by decide)).trans ((rd_a e11 v0 0 (ne_sh q9 q4 (by decide))).trans (rd_k e3 0 (by decide)))))) ?_
    refine aw_aload_n 3 dX1_finishOldest_91 rfl rfl ?_
    have q26 := sh_w e11 o6 q10
    have q27 := sh_w e13 (by decide) q26
    have q28 := sh_w e15 (by decide) q27
    have q29 := sh_n e23 oh17 q28 (by decide)
    refine aw_getI dX1_finishOldest_92 fl_X1_94 rfl q29 (x := (h v3 1)) ((rd_n e23 oh17 q28 (by decide) 1).trans ((rd_a e15 v3 1 (ne_sh q14 q27 (by decide))).trans ((rd_a e13 v3 1 (ne_sh q12 q26 (by decide))).trans ((rd_a e11 v3 1 (ne_sh q9 q10 (by decide))).trans (rd_a e3 v3 1 (ne_sh o1 o8 (by decide))))))) ?_
    refine aw_aload_n 3 dX1_finishOldest_95 rfl rfl ?_
    refine aw_getI dX1_finishOldest_96 fl_X1_91 rfl q29 (x := (h v3 0)) ((rd_n e23 oh17 q28 (by decide) 0).trans ((rd_a e15 v3 0 (ne_sh q14 q27 (by decide))).trans ((rd_a e13 v3 0 (ne_sh q12 q26 (by decide))).trans ((rd_a e11 v3 0 (ne_sh q9 q10 (by decide))).trans (rd_a e3 v3 0 (ne_sh o1 o8 (by decide))))))) ?_
    refine aw_iload_n 1 dX1_finishOldest_99 rfl rfl ?_
    refine aw_iload_n 2 dX1_finishOldest_100 rfl rfl ?_
    refine aw_use (fun _ _ oz30 => ?_)
    refine aw_callI (M' := mm_X4_init) [vI (h v0 0), vI (h v3 1), vI (h v3 0), vI v1, vI v2] [vR a21, vR (h v0 1)] lk_X1_174 dX1_finishOldest_101 rfl (Nat.le_of_ble_eq_true rfl) ⟨by decide, by decide, Nat.zero_le _, Nat.zero_le _⟩ (nz_s oz30 q24 (by decide)) ?_
    exact k.mono (fun _ _ z => aw_sub [] rfl z)
  · have k := k.2 hc
    refine aw_aload_n 0 dX1_finishOldest_27 rfl rfl ?_
    refine aw_getR dX1_finishOldest_28 fl_X1_11 rfl o1 (x := (h v0 3)) rfl ?_
    refine aw_iload 4 dX1_finishOldest_31 rfl ?_
    refine aw_iconst dX1_finishOldest_33 ⟨by decide, by decide⟩ ?_
    obtain ⟨o31, k⟩ := k
    refine aw_isub dX1_finishOldest_34 o31 ?_
    refine aw_aload_n 0 dX1_finishOldest_35 rfl rfl ?_
    refine aw_getR dX1_finishOldest_36 fl_X1_11 rfl o1 (x := (h v0 3)) rfl ?_
    refine aw_iload 4 dX1_finishOldest_39 rfl ?_
    obtain ⟨o32, k⟩ := k
    obtain ⟨o33, k⟩ := k
    obtain ⟨o34, k⟩ := k
    refine aw_aald 7 8 aq_8 dX1_finishOldest_41 o32 o33 o34 (x := (h (h v0 3) v4)) rfl ?_
    obtain ⟨o35, k⟩ := k
    obtain ⟨o36, k⟩ := k
    obtain ⟨o37, k⟩ := k
    refine aw_aast 7 8 aq_8 dX1_finishOldest_42 o32 o35 o36 o37 ?_
    refine aw_hp (fun h1 e38 => ?_)
    have k := k h1 e38
    obtain ⟨o39, k⟩ := k
    refine aw_iinc 4 dX1_finishOldest_43 rfl o39 (by decide) ?_
    refine aw_goto (tgt := 18) dX1_finishOldest_46 (by decide) ?_
    exact aw_sub [1, 2, 3, 4, 0] rfl k
set_option maxRecDepth 20000 in
theorem sg_X1_finishOldest_104 {G : GG} {b : Nat × Nat} {Q : Option VV → Hp → Prop} {s0 s1 : Int} {h : Hp} (k : (h s1 (-1) = 3) ∧ Runs G mm_X2_pushNotice [vR s1, vR s0] h (fun r h' => AW G mm_X1_finishOldest b 107 [] (r.toList ++ []) h' Q)) : AW G mm_X1_finishOldest b 104 [] [vR s0, vR s1] h Q := by
  obtain ⟨o1, k⟩ := k
  refine aw_callV (M' := mm_X2_pushNotice) 2 [vR s0] [] lk_X1_177 ⟨_, rfl, rfl⟩ dX1_finishOldest_104 rfl (Nat.le_of_ble_eq_true rfl) ⟨by decide, by decide, Nat.zero_le _, Nat.zero_le _⟩ o1 ?_
  exact k
set_option maxRecDepth 20000 in
theorem sg_X1_finishOldest_107 {G : GG} {b : Nat × Nat} {Q : Option VV → Hp → Prop} {h : Hp} (k : Q none h) : AW G mm_X1_finishOldest b 107 [] [] h Q := by
  exact aw_vret dX1_finishOldest_107 rfl k
set_option maxRecDepth 20000 in
theorem sg_X1_init_0 {G : GG} {b : Nat × Nat} {Q : Option VV → Hp → Prop} {v0 v1 v2 v3 : Int} {h : Hp} (k : (h v0 (-1) = 2) ∧ (inI (h 0 0 + 1)) ∧ (1 ≤ b.1) ∧ (4 ≤ b.2) ∧ ∀ a7, a7 = h 0 0 + 1 → ∀ h1, h1 = nw h 38 4 → ∀ h2, h2 = wr h1 v0 3 a7 → (inI (h2 0 0 + 1)) ∧ (1 ≤ b.1 - 1) ∧ (3 ≤ b.2 - 4) ∧ ∀ a17, a17 = h2 0 0 + 1 → ∀ h3, h3 = nw h2 20 3 → ∀ h4, h4 = wr h3 v0 4 a17 → (inI (h4 0 0 + 1)) ∧ (1 ≤ b.1 - 1 - 1) ∧ (3 ≤ b.2 - 4 - 3) ∧ ∀ a28, a28 = h4 0 0 + 1 → ∀ h5, h5 = nw h4 1 0 → (2 ≤ b.1 - 1 - 1 - 1) ∧ (4 ≤ b.2 - 4 - 3 - 3) ∧ Runs G mm_X0_init [vR a28] h5 (fun r h' => AW G mm_X1_init (b.1 - 1 - 1 - 1 - 2, b.2 - 4 - 3 - 3 - 4) 27 [(0, vR v0), (1, vI v1), (2, vR v2), (3, vR v3)] (r.toList ++ [vR a28, vR v0]) h' Q)) : AW G mm_X1_init b 0 [(0, vR v0), (1, vI v1), (2, vR v2), (3, vR v3)] [] h Q := by
  refine aw_aload_n 0 dX1_init_0 rfl rfl ?_
  obtain ⟨o1, k⟩ := k
  refine aw_use (fun _ _ oz2 => ?_)
  refine aw_obj lo_X1_3 dX1_init_1 (nz_s oz2 o1 (by decide)) ⟨by decide, Nat.le_of_ble_eq_true rfl⟩ ?_
  refine aw_aload_n 0 dX1_init_4 rfl rfl ?_
  refine aw_iconst dX1_init_5 ⟨by decide, by decide⟩ ?_
  refine aw_use (fun _ _ oh3 => ?_)
  obtain ⟨o4, k⟩ := k
  obtain ⟨o5, k⟩ := k
  obtain ⟨o6, k⟩ := k
  refine aw_anew 7 8 aq_8 al_X1_9 dX1_init_6 (by decide) (by decide) o4 o5 o6 ?_
  refine aw_hq (fun a7 e8 h1 e9 => ?_)
  have k := k a7 e8 h1 e9
  have q10 := sh_f e9 e8
  have q11 := sh_n e9 oh3 o1 (by decide)
  refine aw_putR dX1_init_9 fl_X1_11 (fun q hq _ => by cases hq; exact ⟨rfl, rfl⟩) rfl rfl q11 ?_
  refine aw_hp (fun h2 e12 => ?_)
  have k := k h2 e12
  refine aw_aload_n 0 dX1_init_12 rfl rfl ?_
  refine aw_iconst dX1_init_13 ⟨by decide, by decide⟩ ?_
  refine aw_use (fun _ _ oh13 => ?_)
  obtain ⟨o14, k⟩ := k
  obtain ⟨o15, k⟩ := k
  obtain ⟨o16, k⟩ := k
  refine aw_newa na_int dX1_init_14 (by decide) (by decide) o14 o15 o16 ?_
  refine aw_hq (fun a17 e18 h3 e19 => ?_)
  have k := k a17 e18 h3 e19
  have q20 := sh_f e19 e18
  have q21 := sh_w e12 (by decide) q11
  have q22 := sh_n e19 oh13 q21 (by decide)
  refine aw_putR dX1_init_16 fl_X1_17 (fun q hq _ => by cases hq; exact ⟨rfl, rfl⟩) rfl rfl q22 ?_
  refine aw_hp (fun h4 e23 => ?_)
  have k := k h4 e23
  refine aw_aload_n 0 dX1_init_19 rfl rfl ?_
  refine aw_use (fun _ _ oh24 => ?_)
  obtain ⟨o25, k⟩ := k
  obtain ⟨o26, k⟩ := k
  obtain ⟨o27, k⟩ := k
  refine aw_new 0 nl_X1_21 dX1_init_20 o25 o26 o27 ?_
  refine aw_hq (fun a28 e29 h5 e30 => ?_)
  have k := k a28 e29 h5 e30
  have q31 := sh_f e30 e29
  refine aw_dup dX1_init_23 rfl ?_
  obtain ⟨o32, k⟩ := k
  obtain ⟨o33, k⟩ := k
  refine aw_use (fun _ _ oz34 => ?_)
  refine aw_callIN (M' := mm_X0_init) [] [vR a28, vR v0] lk_X1_23 dX1_init_24 rfl (Nat.le_of_ble_eq_true rfl) ⟨by decide, by decide, o32, o33⟩ (nz_s oz34 q31 (by decide)) ?_
  exact k
theorem rn_X1_init {G : GG} {Q : Option VV → Hp → Prop} {v0 v1 v2 v3 : Int} {h : Hp} (k : (h v0 (-1) = 2) ∧ (inI (h 0 0 + 1)) ∧ (1 ≤ 9) ∧ (4 ≤ 42) ∧ ∀ a7, a7 = h 0 0 + 1 → ∀ h1, h1 = nw h 38 4 → ∀ h2, h2 = wr h1 v0 3 a7 → (inI (h2 0 0 + 1)) ∧ (1 ≤ 9 - 1) ∧ (3 ≤ 42 - 4) ∧ ∀ a17, a17 = h2 0 0 + 1 → ∀ h3, h3 = nw h2 20 3 → ∀ h4, h4 = wr h3 v0 4 a17 → (inI (h4 0 0 + 1)) ∧ (1 ≤ 9 - 1 - 1) ∧ (3 ≤ 42 - 4 - 3) ∧ ∀ a28, a28 = h4 0 0 + 1 → ∀ h5, h5 = nw h4 1 0 → (2 ≤ 9 - 1 - 1 - 1) ∧ (4 ≤ 42 - 4 - 3 - 3) ∧ Runs G mm_X0_init [vR a28] h5 (fun r h' => AW G mm_X1_init (9 - 1 - 1 - 1 - 2, 42 - 4 - 3 - 3 - 4) 27 [(0, vR v0), (1, vI v1), (2, vR v2), (3, vR v3)] (r.toList ++ [vR a28, vR v0]) h' Q)) : Runs G mm_X1_init [vR v0, vI v1, vR v2, vR v3] h Q := Runs.of (by decide +kernel) (Nat.le_of_ble_eq_true rfl) (sg_X1_init_0 (b := (9, 42)) k)
set_option maxRecDepth 20000 in
theorem sg_X1_init_27 {G : GG} {b : Nat × Nat} {Q : Option VV → Hp → Prop} {v0 v1 v2 v3 s0 s1 : Int} {h : Hp} (k : (h s1 (-1) = 2) ∧ ∀ h1, h1 = wr h s1 5 s0 → (h v0 (-1) = 2) ∧ ∀ h2, h2 = wr h1 v0 6 0 → ∀ h3, h3 = wr h2 v0 7 0 → ∀ h4, h4 = wr h3 v0 8 0 → ∀ h5, h5 = wr h4 v0 9 0 → ∀ h6, h6 = wr h5 v0 10 0 → ∀ h7, h7 = wr h6 v0 11 0 → ∀ h8, h8 = wr h7 v0 12 0 → ∀ h9, h9 = wr h8 v0 13 0 → ∀ h10, h10 = wr h9 v0 14 0 → ∀ h11, h11 = wr h10 v0 15 0 → ∀ h12, h12 = wr h11 v0 0 v1 → ∀ h13, h13 = wr h12 v0 1 v2 → ∀ h14, h14 = wr h13 v0 2 v3 → AW G mm_X1_init b 98 [(0, vR v0), (4, vI 0)] [] h14 Q) : AW G mm_X1_init b 27 [(0, vR v0), (1, vI v1), (2, vR v2), (3, vR v3)] [vR s0, vR s1] h Q := by
  obtain ⟨o1, k⟩ := k
  refine aw_putR dX1_init_27 fl_X1_24 (fun q hq _ => by cases hq; exact ⟨rfl, rfl⟩) rfl rfl o1 ?_
  refine aw_hp (fun h1 e2 => ?_)
  have k := k h1 e2
  refine aw_aload_n 0 dX1_init_30 rfl rfl ?_
  refine aw_iconst dX1_init_31 ⟨by decide, by decide⟩ ?_
  obtain ⟨o3, k⟩ := k
  have q4 := sh_w e2 (by decide) o3
  refine aw_putI dX1_init_32 fl_X1_28 (fun q hq hf => by cases hq; cases hf) rfl rfl q4 ?_
  refine aw_hp (fun h2 e5 => ?_)
  have k := k h2 e5
  refine aw_aload_n 0 dX1_init_35 rfl rfl ?_
  refine aw_iconst dX1_init_36 ⟨by decide, by decide⟩ ?_
  have q6 := sh_w e5 (by decide) q4
  refine aw_putI dX1_init_37 fl_X1_32 (fun q hq hf => by cases hq; cases hf) rfl rfl q6 ?_
  refine aw_hp (fun h3 e7 => ?_)
  have k := k h3 e7
  refine aw_aload_n 0 dX1_init_40 rfl rfl ?_
  refine aw_iconst dX1_init_41 ⟨by decide, by decide⟩ ?_
  have q8 := sh_w e7 (by decide) q6
  refine aw_putI dX1_init_42 fl_X1_35 (fun q hq hf => by cases hq; cases hf) rfl rfl q8 ?_
  refine aw_hp (fun h4 e9 => ?_)
  have k := k h4 e9
  refine aw_aload_n 0 dX1_init_45 rfl rfl ?_
  refine aw_iconst dX1_init_46 ⟨by decide, by decide⟩ ?_
  have q10 := sh_w e9 (by decide) q8
  refine aw_putI dX1_init_47 fl_X1_38 (fun q hq hf => by cases hq; cases hf) rfl rfl q10 ?_
  refine aw_hp (fun h5 e11 => ?_)
  have k := k h5 e11
  refine aw_aload_n 0 dX1_init_50 rfl rfl ?_
  refine aw_iconst dX1_init_51 ⟨by decide, by decide⟩ ?_
  have q12 := sh_w e11 (by decide) q10
  refine aw_putI dX1_init_52 fl_X1_41 (fun q hq hf => by cases hq; cases hf) rfl rfl q12 ?_
  refine aw_hp (fun h6 e13 => ?_)
  have k := k h6 e13
  refine aw_aload_n 0 dX1_init_55 rfl rfl ?_
  refine aw_iconst dX1_init_56 ⟨by decide, by decide⟩ ?_
  have q14 := sh_w e13 (by decide) q12
  refine aw_putI dX1_init_57 fl_X1_44 (fun q hq hf => by cases hq; cases hf) rfl rfl q14 ?_
  refine aw_hp (fun h7 e15 => ?_)
  have k := k h7 e15
  refine aw_aload_n 0 dX1_init_60 rfl rfl ?_
  refine aw_iconst dX1_init_61 ⟨by decide, by decide⟩ ?_
  have q16 := sh_w e15 (by decide) q14
  refine aw_putI dX1_init_62 fl_X1_47 (fun q hq hf => by cases hq; cases hf) rfl rfl q16 ?_
  refine aw_hp (fun h8 e17 => ?_)
  have k := k h8 e17
  refine aw_aload_n 0 dX1_init_65 rfl rfl ?_
  refine aw_iconst dX1_init_66 ⟨by decide, by decide⟩ ?_
  have q18 := sh_w e17 (by decide) q16
  refine aw_putZ dX1_init_67 fl_X1_50 (fun q hq hf => by cases hq; cases hf) rfl rfl (by decide) q18 ?_
  refine aw_hp (fun h9 e19 => ?_)
  have k := k h9 e19
  refine aw_aload_n 0 dX1_init_70 rfl rfl ?_
  refine aw_iconst dX1_init_71 ⟨by decide, by decide⟩ ?_
  have q20 := sh_w e19 (by decide) q18
  refine aw_putI dX1_init_72 fl_X1_54 (fun q hq hf => by cases hq; cases hf) rfl rfl q20 ?_
  refine aw_hp (fun h10 e21 => ?_)
  have k := k h10 e21
  refine aw_aload_n 0 dX1_init_75 rfl rfl ?_
  refine aw_iconst dX1_init_76 ⟨by decide, by decide⟩ ?_
  have q22 := sh_w e21 (by decide) q20
  refine aw_putI dX1_init_77 fl_X1_57 (fun q hq hf => by cases hq; cases hf) rfl rfl q22 ?_
  refine aw_hp (fun h11 e23 => ?_)
  have k := k h11 e23
  refine aw_aload_n 0 dX1_init_80 rfl rfl ?_
  refine aw_iload_n 1 dX1_init_81 rfl rfl ?_
  have q24 := sh_w e23 (by decide) q22
  refine aw_putI dX1_init_82 fl_X1_60 (fun q hq _ => by cases hq; exact ⟨rfl, rfl⟩) rfl rfl q24 ?_
  refine aw_hp (fun h12 e25 => ?_)
  have k := k h12 e25
  refine aw_aload_n 0 dX1_init_85 rfl rfl ?_
  refine aw_aload_n 2 dX1_init_86 rfl rfl ?_
  have q26 := sh_w e25 (by decide) q24
  refine aw_putR dX1_init_87 fl_X1_63 (fun q hq _ => by cases hq; exact ⟨rfl, rfl⟩) rfl rfl q26 ?_
  refine aw_hp (fun h13 e27 => ?_)
  have k := k h13 e27
  refine aw_aload_n 0 dX1_init_90 rfl rfl ?_
  refine aw_aload_n 3 dX1_init_91 rfl rfl ?_
  have q28 := sh_w e27 (by decide) q26
  refine aw_putR dX1_init_92 fl_X1_67 (fun q hq _ => by cases hq; exact ⟨rfl, rfl⟩) rfl rfl q28 ?_
  refine aw_hp (fun h14 e29 => ?_)
  have k := k h14 e29
  refine aw_iconst dX1_init_95 ⟨by decide, by decide⟩ ?_
  refine aw_istore dX1_init_96 (by decide) ?_
  exact aw_sub [1, 0] rfl k
set_option maxRecDepth 20000 in
theorem sg_X1_init_98 {G : GG} {b : Nat × Nat} {Q : Option VV → Hp → Prop} {v0 v4 : Int} {h : Hp} (k : ((4 ≤ v4) → Q none h) ∧ ((¬ (4 ≤ v4)) → (h v0 (-1) = 2) ∧ (inI (h 0 0 + 1)) ∧ (1 ≤ b.1) ∧ (7 ≤ b.2) ∧ ∀ a6, a6 = h 0 0 + 1 → ∀ h1, h1 = nw h 9 0 → Runs G mm_X8_init [vR a6] h1 (fun r h' => AW G mm_X1_init (b.1 - 1, b.2 - 7) 117 [(0, vR v0), (4, vI v4)] (r.toList ++ [vR a6, vI v4, vR (h v0 3)]) h' Q))) : AW G mm_X1_init b 98 [(0, vR v0), (4, vI v4)] [] h Q := by
  refine aw_iload 1 dX1_init_98 rfl ?_
  refine aw_iconst dX1_init_100 ⟨by decide, by decide⟩ ?_
  refine aw_icmp_ge (tgt := 124) dX1_init_101 (by decide) (fun hc => ?_) (fun hc => ?_)
  · have k := k.1 hc
    exact aw_vret dX1_init_124 rfl k
  · have k := k.2 hc
    refine aw_aload_n 0 dX1_init_104 rfl rfl ?_
    obtain ⟨o1, k⟩ := k
    refine aw_getR dX1_init_105 fl_X1_11 rfl o1 (x := (h v0 3)) rfl ?_
    refine aw_iload 1 dX1_init_108 rfl ?_
    refine aw_use (fun _ _ oh2 => ?_)
    obtain ⟨o3, k⟩ := k
    obtain ⟨o4, k⟩ := k
    obtain ⟨o5, k⟩ := k
    refine aw_new 8 nl_X1_9 dX1_init_110 o3 o4 o5 ?_
    refine aw_hq (fun a6 e7 h1 e8 => ?_)
    have k := k a6 e7 h1 e8
    have q9 := sh_f e8 e7
    refine aw_dup dX1_init_113 rfl ?_
    refine aw_use (fun _ _ oz10 => ?_)
    refine aw_callIN (M' := mm_X8_init) [] [vR a6, vI v4, vR (h v0 3)] lk_X1_71 dX1_init_114 rfl (Nat.le_of_ble_eq_true rfl) ⟨by decide, by decide, Nat.zero_le _, Nat.zero_le _⟩ (nz_s oz10 q9 (by decide)) ?_
    exact k
set_option maxRecDepth 20000 in
theorem sg_X1_init_117 {G : GG} {b : Nat × Nat} {Q : Option VV → Hp → Prop} {v0 v4 s0 s1 s2 : Int} {h : Hp} (k : (h s2 (-1) = 38) ∧ (0 ≤ s1) ∧ (s1 < h s2 (-2)) ∧ (h s0 (-1) = 9) ∧ ∀ h1, h1 = wr h s2 s1 s0 → (inI (v4 + 1)) ∧ AW G mm_X1_init b 98 [(0, vR v0), (4, vI (v4 + 1))] [] h1 Q) : AW G mm_X1_init b 117 [(0, vR v0), (4, vI v4)] [vR s0, vI s1, vR s2] h Q := by
  obtain ⟨o1, k⟩ := k
  obtain ⟨o2, k⟩ := k
  obtain ⟨o3, k⟩ := k
  obtain ⟨o4, k⟩ := k
  refine aw_aast 7 8 aq_8 dX1_init_117 o1 o2 o3 o4 ?_
  refine aw_hp (fun h1 e5 => ?_)
  have k := k h1 e5
  obtain ⟨o6, k⟩ := k
  refine aw_iinc 1 dX1_init_118 rfl o6 (by decide) ?_
  refine aw_goto (tgt := 98) dX1_init_121 (by decide) ?_
  exact aw_sub [1, 0] rfl k
set_option maxRecDepth 20000 in
theorem sg_X1_isAwaited_0 {G : GG} {b : Nat × Nat} {Q : Option VV → Hp → Prop} {v0 v1 : Int} {h : Hp} (k : (h v1 (-1) = 6) ∧ ((¬ (h v1 2) = 2) → AW G mm_X1_isAwaited b 39 [(0, vR v0), (1, vR v1), (2, vI 0)] [] h Q) ∧ (((h v1 2) = 2) → (h v0 (-1) = 2) ∧ (((h v0 8) ≤ 0) → Q (some (vI 0)) h) ∧ ((¬ ((h v0 8) ≤ 0)) → (h (h v0 3) (-1) = 38) ∧ (0 < h (h v0 3) (-2)) ∧ (h (h (h v0 3) 0) (-1) = 9) ∧ (((h v1 3) < (h (h (h v0 3) 0) 0)) → Q (some (vI 0)) h) ∧ ((¬ ((h v1 3) < (h (h (h v0 3) 0) 0))) → Q (some (vI 1)) h)))) : AW G mm_X1_isAwaited b 0 [(0, vR v0), (1, vR v1)] [] h Q := by
  refine aw_aload_n 1 dX1_isAwaited_0 rfl rfl ?_
  obtain ⟨o1, k⟩ := k
  refine aw_getI dX1_isAwaited_1 fl_X1_135 rfl o1 (x := (h v1 2)) rfl ?_
  refine aw_iconst dX1_isAwaited_4 ⟨by decide, by decide⟩ ?_
  refine aw_icmp_ne (tgt := 37) dX1_isAwaited_5 (by decide) (fun hc => ?_) (fun hc => ?_)
  · have k := k.1 hc
    refine aw_iconst dX1_isAwaited_37 ⟨by decide, by decide⟩ ?_
    refine aw_istore_n dX1_isAwaited_38 rfl (by decide) ?_
    exact aw_sub [1, 2, 0] rfl k
  · have k := k.2 hc
    refine aw_aload_n 0 dX1_isAwaited_8 rfl rfl ?_
    obtain ⟨o2, k⟩ := k
    refine aw_getI dX1_isAwaited_9 fl_X1_35 rfl o2 (x := (h v0 8)) rfl ?_
    refine aw_if_le (tgt := 35) dX1_isAwaited_12 (by decide) (fun hc => ?_) (fun hc => ?_)
    · have k := k.1 hc
      refine aw_iconst dX1_isAwaited_35 ⟨by decide, by decide⟩ ?_
      exact aw_zret dX1_isAwaited_36 rfl (by decide) k
    · have k := k.2 hc
      refine aw_aload_n 1 dX1_isAwaited_15 rfl rfl ?_
      refine aw_getI dX1_isAwaited_16 fl_X1_142 rfl o1 (x := (h v1 3)) rfl ?_
      refine aw_aload_n 0 dX1_isAwaited_19 rfl rfl ?_
      refine aw_getR dX1_isAwaited_20 fl_X1_11 rfl o2 (x := (h v0 3)) rfl ?_
      refine aw_iconst dX1_isAwaited_23 ⟨by decide, by decide⟩ ?_
      obtain ⟨o3, k⟩ := k
      obtain ⟨o4, k⟩ := k
      refine aw_aald 7 8 aq_8 dX1_isAwaited_24 o3 (by decide) o4 (x := (h (h v0 3) 0)) rfl ?_
      obtain ⟨o5, k⟩ := k
      refine aw_getI dX1_isAwaited_25 fl_X1_91 rfl o5 (x := (h (h (h v0 3) 0) 0)) rfl ?_
      refine aw_icmp_lt (tgt := 35) dX1_isAwaited_28 (by decide) (fun hc => ?_) (fun hc => ?_)
      · have k := k.1 hc
        refine aw_iconst dX1_isAwaited_35 ⟨by decide, by decide⟩ ?_
        exact aw_zret dX1_isAwaited_36 rfl (by decide) k
      · have k := k.2 hc
        refine aw_iconst dX1_isAwaited_31 ⟨by decide, by decide⟩ ?_
        refine aw_goto (tgt := 36) dX1_isAwaited_32 (by decide) ?_
        exact aw_zret dX1_isAwaited_36 rfl (by decide) k
theorem rn_X1_isAwaited {G : GG} {Q : Option VV → Hp → Prop} {v0 v1 : Int} {h : Hp} (k : (h v1 (-1) = 6) ∧ ((¬ (h v1 2) = 2) → AW G mm_X1_isAwaited (0, 0) 39 [(0, vR v0), (1, vR v1), (2, vI 0)] [] h Q) ∧ (((h v1 2) = 2) → (h v0 (-1) = 2) ∧ (((h v0 8) ≤ 0) → Q (some (vI 0)) h) ∧ ((¬ ((h v0 8) ≤ 0)) → (h (h v0 3) (-1) = 38) ∧ (0 < h (h v0 3) (-2)) ∧ (h (h (h v0 3) 0) (-1) = 9) ∧ (((h v1 3) < (h (h (h v0 3) 0) 0)) → Q (some (vI 0)) h) ∧ ((¬ ((h v1 3) < (h (h (h v0 3) 0) 0))) → Q (some (vI 1)) h)))) : Runs G mm_X1_isAwaited [vR v0, vR v1] h Q := Runs.of (by decide +kernel) (Nat.le_of_ble_eq_true rfl) (sg_X1_isAwaited_0 (b := (0, 0)) k)
set_option maxRecDepth 20000 in
theorem sg_X1_isAwaited_39 {G : GG} {b : Nat × Nat} {Q : Option VV → Hp → Prop} {v0 v1 v2 : Int} {h : Hp} (k : (h v0 (-1) = 2) ∧ (((h v0 8) ≤ v2) → Q (some (vI 0)) h) ∧ ((¬ ((h v0 8) ≤ v2)) → (h (h v0 3) (-1) = 38) ∧ (0 ≤ v2) ∧ (v2 < h (h v0 3) (-2)) ∧ (h (h (h v0 3) v2) (-1) = 9) ∧ (h v1 (-1) = 6) ∧ ((¬ (h (h (h v0 3) v2) 0) = (h v1 3)) → (inI (v2 + 1)) ∧ AW G mm_X1_isAwaited b 39 [(0, vR v0), (1, vR v1), (2, vI (v2 + 1))] [] h Q) ∧ (((h (h (h v0 3) v2) 0) = (h v1 3)) → Q (some (vI 1)) h))) : AW G mm_X1_isAwaited b 39 [(0, vR v0), (1, vR v1), (2, vI v2)] [] h Q := by
  refine aw_iload_n 2 dX1_isAwaited_39 rfl rfl ?_
  refine aw_aload_n 0 dX1_isAwaited_40 rfl rfl ?_
  obtain ⟨o1, k⟩ := k
  refine aw_getI dX1_isAwaited_41 fl_X1_35 rfl o1 (x := (h v0 8)) rfl ?_
  refine aw_icmp_ge (tgt := 71) dX1_isAwaited_44 (by decide) (fun hc => ?_) (fun hc => ?_)
  · have k := k.1 hc
    refine aw_iconst dX1_isAwaited_71 ⟨by decide, by decide⟩ ?_
    exact aw_zret dX1_isAwaited_72 rfl (by decide) k
  · have k := k.2 hc
    refine aw_aload_n 0 dX1_isAwaited_47 rfl rfl ?_
    refine aw_getR dX1_isAwaited_48 fl_X1_11 rfl o1 (x := (h v0 3)) rfl ?_
    refine aw_iload_n 2 dX1_isAwaited_51 rfl rfl ?_
    obtain ⟨o2, k⟩ := k
    obtain ⟨o3, k⟩ := k
    obtain ⟨o4, k⟩ := k
    refine aw_aald 7 8 aq_8 dX1_isAwaited_52 o2 o3 o4 (x := (h (h v0 3) v2)) rfl ?_
    obtain ⟨o5, k⟩ := k
    refine aw_getI dX1_isAwaited_53 fl_X1_91 rfl o5 (x := (h (h (h v0 3) v2) 0)) rfl ?_
    refine aw_aload_n 1 dX1_isAwaited_56 rfl rfl ?_
    obtain ⟨o6, k⟩ := k
    refine aw_getI dX1_isAwaited_57 fl_X1_142 rfl o6 (x := (h v1 3)) rfl ?_
    refine aw_icmp_ne (tgt := 65) dX1_isAwaited_60 (by decide) (fun hc => ?_) (fun hc => ?_)
    · have k := k.1 hc
      obtain ⟨o7, k⟩ := k
      refine aw_iinc 2 dX1_isAwaited_65 rfl o7 (by decide) ?_
      refine aw_goto (tgt := 39) dX1_isAwaited_68 (by decide) ?_
      exact aw_sub [1, 2, 0] rfl k
    · have k := k.2 hc
      refine aw_iconst dX1_isAwaited_63 ⟨by decide, by decide⟩ ?_
      exact aw_zret dX1_isAwaited_64 rfl (by decide) k
set_option maxRecDepth 20000 in
theorem sg_X1_meet_0 {G : GG} {b : Nat × Nat} {Q : Option VV → Hp → Prop} {v0 v1 : Int} {h : Hp} (k : (h v0 (-1) = 2) ∧ (((h v0 6) = 1) → (h v1 (-1) = 6) ∧ (((h v1 2) = 0) → (((h v1 3) ≤ (h v0 9)) → (((h v0 9) ≤ (h v1 3)) → (7 ≤ b.1) ∧ (42 ≤ b.2) ∧ Runs G mm_X1_meetExpected [vR v0, vR v1] h (fun r h' => AW G mm_X1_meet (b.1 - 7, b.2 - 42) 66 [] (r.toList ++ []) h' Q)) ∧ ((¬ ((h v0 9) ≤ (h v1 3))) → (7 ≤ b.1) ∧ (42 ≤ b.2) ∧ Runs G mm_X1_meetOldRequest [vR v0, vR v1] h (fun r h' => AW G mm_X1_meet (b.1 - 7, b.2 - 42) 58 [] (r.toList ++ []) h' Q))) ∧ ((¬ ((h v1 3) ≤ (h v0 9))) → Runs G mm_X1_complain [vR v0] h (fun r h' => AW G mm_X1_meet b 39 [] (r.toList ++ []) h' Q))) ∧ ((¬ ((h v1 2) = 0)) → (12 ≤ b.1) ∧ (72 ≤ b.2) ∧ Runs G mm_X1_meetAnswer [vR v0, vR v1] h (fun r h' => AW G mm_X1_meet (b.1 - 12, b.2 - 72) 21 [] (r.toList ++ []) h' Q))) ∧ ((¬ ((h v0 6) = 1)) → Q none h)) : AW G mm_X1_meet b 0 [(0, vR v0), (1, vR v1)] [] h Q := by
  refine aw_aload_n 0 dX1_meet_0 rfl rfl ?_
  obtain ⟨o1, k⟩ := k
  refine aw_getI dX1_meet_1 fl_X1_28 rfl o1 (x := (h v0 6)) rfl ?_
  refine aw_iconst dX1_meet_4 ⟨by decide, by decide⟩ ?_
  refine aw_icmp_eq (tgt := 9) dX1_meet_5 (by decide) (fun hc => ?_) (fun hc => ?_)
  · have k := k.1 hc
    refine aw_aload_n 1 dX1_meet_9 rfl rfl ?_
    obtain ⟨o2, k⟩ := k
    refine aw_getI dX1_meet_10 fl_X1_135 rfl o2 (x := (h v1 2)) rfl ?_
    refine aw_if_eq (tgt := 24) dX1_meet_13 (by decide) (fun hc => ?_) (fun hc => ?_)
    · have k := k.1 hc
      refine aw_aload_n 1 dX1_meet_24 rfl rfl ?_
      refine aw_getI dX1_meet_25 fl_X1_142 rfl o2 (x := (h v1 3)) rfl ?_
      refine aw_aload_n 0 dX1_meet_28 rfl rfl ?_
      refine aw_getI dX1_meet_29 fl_X1_38 rfl o1 (x := (h v0 9)) rfl ?_
      refine aw_icmp_le (tgt := 42) dX1_meet_32 (by decide) (fun hc => ?_) (fun hc => ?_)
      · have k := k.1 hc
        refine aw_aload_n 1 dX1_meet_42 rfl rfl ?_
        refine aw_getI dX1_meet_43 fl_X1_142 rfl o2 (x := (h v1 3)) rfl ?_
        refine aw_aload_n 0 dX1_meet_46 rfl rfl ?_
        refine aw_getI dX1_meet_47 fl_X1_38 rfl o1 (x := (h v0 9)) rfl ?_
        refine aw_icmp_ge (tgt := 61) dX1_meet_50 (by decide) (fun hc => ?_) (fun hc => ?_)
        · have k := k.1 hc
          refine aw_aload_n 0 dX1_meet_61 rfl rfl ?_
          refine aw_aload_n 1 dX1_meet_62 rfl rfl ?_
          obtain ⟨o3, k⟩ := k
          obtain ⟨o4, k⟩ := k
          refine aw_callV (M' := mm_X1_meetExpected) 1 [vR v1] [] lk_X1_149 ⟨_, rfl, rfl⟩ dX1_meet_63 rfl (Nat.le_of_ble_eq_true rfl) ⟨by decide, by decide, o3, o4⟩ o1 ?_
          exact k.mono (fun _ _ z => aw_sub [] rfl z)
        · have k := k.2 hc
          refine aw_aload_n 0 dX1_meet_53 rfl rfl ?_
          refine aw_aload_n 1 dX1_meet_54 rfl rfl ?_
          obtain ⟨o5, k⟩ := k
          obtain ⟨o6, k⟩ := k
          refine aw_callV (M' := mm_X1_meetOldRequest) 1 [vR v1] [] lk_X1_146 ⟨_, rfl, rfl⟩ dX1_meet_55 rfl (Nat.le_of_ble_eq_true rfl) ⟨by decide, by decide, o5, o6⟩ o1 ?_
          exact k.mono (fun _ _ z => aw_sub [] rfl z)
      · have k := k.2 hc
        refine aw_aload_n 0 dX1_meet_35 rfl rfl ?_
        refine aw_callV (M' := mm_X1_complain) 1 [] [] lk_X1_143 ⟨_, rfl, rfl⟩ dX1_meet_36 rfl (Nat.le_of_ble_eq_true rfl) ⟨by decide, by decide, Nat.zero_le _, Nat.zero_le _⟩ o1 ?_
        exact k.mono (fun _ _ z => aw_sub [] rfl z)
    · have k := k.2 hc
      refine aw_aload_n 0 dX1_meet_16 rfl rfl ?_
      refine aw_aload_n 1 dX1_meet_17 rfl rfl ?_
      obtain ⟨o7, k⟩ := k
      obtain ⟨o8, k⟩ := k
      refine aw_callV (M' := mm_X1_meetAnswer) 1 [vR v1] [] lk_X1_138 ⟨_, rfl, rfl⟩ dX1_meet_18 rfl (Nat.le_of_ble_eq_true rfl) ⟨by decide, by decide, o7, o8⟩ o1 ?_
      exact k.mono (fun _ _ z => aw_sub [] rfl z)
  · have k := k.2 hc
    exact aw_vret dX1_meet_8 rfl k
theorem rn_X1_meet {G : GG} {Q : Option VV → Hp → Prop} {v0 v1 : Int} {h : Hp} (k : (h v0 (-1) = 2) ∧ (((h v0 6) = 1) → (h v1 (-1) = 6) ∧ (((h v1 2) = 0) → (((h v1 3) ≤ (h v0 9)) → (((h v0 9) ≤ (h v1 3)) → (7 ≤ 12) ∧ (42 ≤ 72) ∧ Runs G mm_X1_meetExpected [vR v0, vR v1] h (fun r h' => AW G mm_X1_meet (12 - 7, 72 - 42) 66 [] (r.toList ++ []) h' Q)) ∧ ((¬ ((h v0 9) ≤ (h v1 3))) → (7 ≤ 12) ∧ (42 ≤ 72) ∧ Runs G mm_X1_meetOldRequest [vR v0, vR v1] h (fun r h' => AW G mm_X1_meet (12 - 7, 72 - 42) 58 [] (r.toList ++ []) h' Q))) ∧ ((¬ ((h v1 3) ≤ (h v0 9))) → Runs G mm_X1_complain [vR v0] h (fun r h' => AW G mm_X1_meet (12, 72) 39 [] (r.toList ++ []) h' Q))) ∧ ((¬ ((h v1 2) = 0)) → (12 ≤ 12) ∧ (72 ≤ 72) ∧ Runs G mm_X1_meetAnswer [vR v0, vR v1] h (fun r h' => AW G mm_X1_meet (12 - 12, 72 - 72) 21 [] (r.toList ++ []) h' Q))) ∧ ((¬ ((h v0 6) = 1)) → Q none h)) : Runs G mm_X1_meet [vR v0, vR v1] h Q := Runs.of (by decide +kernel) (Nat.le_of_ble_eq_true rfl) (sg_X1_meet_0 (b := (12, 72)) k)
set_option maxRecDepth 20000 in
theorem sg_X1_meet_66 {G : GG} {b : Nat × Nat} {Q : Option VV → Hp → Prop} {h : Hp} (k : Q none h) : AW G mm_X1_meet b 66 [] [] h Q := by
  exact aw_vret dX1_meet_66 rfl k
set_option maxRecDepth 20000 in
theorem sg_X1_meet_58 {G : GG} {b : Nat × Nat} {Q : Option VV → Hp → Prop} {h : Hp} (k : Q none h) : AW G mm_X1_meet b 58 [] [] h Q := by
  refine aw_goto (tgt := 66) dX1_meet_58 (by decide) ?_
  exact aw_vret dX1_meet_66 rfl k
set_option maxRecDepth 20000 in
theorem sg_X1_meet_39 {G : GG} {b : Nat × Nat} {Q : Option VV → Hp → Prop} {h : Hp} (k : Q none h) : AW G mm_X1_meet b 39 [] [] h Q := by
  refine aw_goto (tgt := 66) dX1_meet_39 (by decide) ?_
  exact aw_vret dX1_meet_66 rfl k
set_option maxRecDepth 20000 in
theorem sg_X1_meet_21 {G : GG} {b : Nat × Nat} {Q : Option VV → Hp → Prop} {h : Hp} (k : Q none h) : AW G mm_X1_meet b 21 [] [] h Q := by
  refine aw_goto (tgt := 66) dX1_meet_21 (by decide) ?_
  exact aw_vret dX1_meet_66 rfl k
set_option maxRecDepth 20000 in
theorem sg_X1_meetAnswer_0 {G : GG} {b : Nat × Nat} {Q : Option VV → Hp → Prop} {v0 v1 : Int} {h : Hp} (k : (h v0 (-1) = 2) ∧ Runs G mm_X1_isAwaited [vR v0, vR v1] h (fun r h' => AW G mm_X1_meetAnswer b 5 [(0, vR v0), (1, vR v1)] (r.toList ++ []) h' Q)) : AW G mm_X1_meetAnswer b 0 [(0, vR v0), (1, vR v1)] [] h Q := by
  refine aw_aload_n 0 dX1_meetAnswer_0 rfl rfl ?_
  refine aw_aload_n 1 dX1_meetAnswer_1 rfl rfl ?_
  obtain ⟨o1, k⟩ := k
  refine aw_callV (M' := mm_X1_isAwaited) 1 [vR v1] [] lk_X1_217 ⟨_, rfl, rfl⟩ dX1_meetAnswer_2 rfl (Nat.le_of_ble_eq_true rfl) ⟨by decide, by decide, Nat.zero_le _, Nat.zero_le _⟩ o1 ?_
  exact k
theorem rn_X1_meetAnswer {G : GG} {Q : Option VV → Hp → Prop} {v0 v1 : Int} {h : Hp} (k : (h v0 (-1) = 2) ∧ Runs G mm_X1_isAwaited [vR v0, vR v1] h (fun r h' => AW G mm_X1_meetAnswer (12, 72) 5 [(0, vR v0), (1, vR v1)] (r.toList ++ []) h' Q)) : Runs G mm_X1_meetAnswer [vR v0, vR v1] h Q := Runs.of (by decide +kernel) (Nat.le_of_ble_eq_true rfl) (sg_X1_meetAnswer_0 (b := (12, 72)) k)
set_option maxRecDepth 20000 in
theorem sg_X1_meetAnswer_5 {G : GG} {b : Nat × Nat} {Q : Option VV → Hp → Prop} {v0 v1 s0 : Int} {h : Hp} (k : ((¬ s0 = 0) → (h v1 (-1) = 6) ∧ (4 ≤ b.1) ∧ (24 ≤ b.2) ∧ (h v0 (-1) = 2) ∧ Runs G mm_X1_finishBelow [vR v0, vI (h v1 3)] h (fun r h' => AW G mm_X1_meetAnswer (b.1 - 4, b.2 - 24) 17 [(0, vR v0), (1, vR v1)] (r.toList ++ []) h' Q)) ∧ ((s0 = 0) → Q none h)) : AW G mm_X1_meetAnswer b 5 [(0, vR v0), (1, vR v1)] [vI s0] h Q := by
  refine aw_if_ne (tgt := 9) dX1_meetAnswer_5 (by decide) (fun hc => ?_) (fun hc => ?_)
  · have k := k.1 hc
    refine aw_aload_n 0 dX1_meetAnswer_9 rfl rfl ?_
    refine aw_aload_n 1 dX1_meetAnswer_10 rfl rfl ?_
    obtain ⟨o1, k⟩ := k
    refine aw_getI dX1_meetAnswer_11 fl_X1_142 rfl o1 (x := (h v1 3)) rfl ?_
    obtain ⟨o2, k⟩ := k
    obtain ⟨o3, k⟩ := k
    obtain ⟨o4, k⟩ := k
    refine aw_callV (M' := mm_X1_finishBelow) 1 [vI (h v1 3)] [] lk_X1_221 ⟨_, rfl, rfl⟩ dX1_meetAnswer_14 rfl (Nat.le_of_ble_eq_true rfl) ⟨by decide, by decide, o2, o3⟩ o4 ?_
    exact k
  · have k := k.2 hc
    exact aw_vret dX1_meetAnswer_8 rfl k
set_option maxRecDepth 20000 in
theorem sg_X1_meetAnswer_17 {G : GG} {b : Nat × Nat} {Q : Option VV → Hp → Prop} {v0 v1 s0 : Int} {h : Hp} (k : ((¬ s0 = 0) → (h v1 (-1) = 6) ∧ (((h v1 2) = 1) → (1 ≤ b.1) ∧ (6 ≤ b.2) ∧ (h v0 (-1) = 2) ∧ Runs G mm_X1_bringHome [vR v0, vI (h v1 4)] h (fun r h' => AW G mm_X1_meetAnswer (b.1 - 1, b.2 - 6) 68 [] (r.toList ++ []) h' Q)) ∧ (((h v1 2) = 2) → (8 ≤ b.1) ∧ (48 ≤ b.2) ∧ (h v0 (-1) = 2) ∧ Runs G mm_X1_tryAgain [vR v0] h (fun r h' => AW G mm_X1_meetAnswer (b.1 - 8, b.2 - 48) 75 [] (r.toList ++ []) h' Q)) ∧ (((h v1 2) = 3) → (8 ≤ b.1) ∧ (48 ≤ b.2) ∧ (h v0 (-1) = 2) ∧ Runs G mm_X1_bearBusy [vR v0] h (fun r h' => AW G mm_X1_meetAnswer (b.1 - 8, b.2 - 48) 82 [] (r.toList ++ []) h' Q)) ∧ (((h v1 2) = 4) → (1 ≤ b.1) ∧ (6 ≤ b.2) ∧ (h v0 (-1) = 2) ∧ Runs G mm_X1_finishOldest [vR v0, vI 1, vI (h v1 4)] h (fun r h' => AW G mm_X1_meetAnswer (b.1 - 1, b.2 - 6) 94 [(0, vR v0)] (r.toList ++ []) h' Q)) ∧ (((h v1 2) < 1 ∨ 4 < (h v1 2)) → Q none h)) ∧ ((s0 = 0) → (8 ≤ b.1) ∧ (48 ≤ b.2) ∧ (h v0 (-1) = 2) ∧ Runs G mm_X1_tryAgain [vR v0] h (fun r h' => AW G mm_X1_meetAnswer (b.1 - 8, b.2 - 48) 24 [] (r.toList ++ []) h' Q))) : AW G mm_X1_meetAnswer b 17 [(0, vR v0), (1, vR v1)] [vI s0] h Q := by
  refine aw_if_ne (tgt := 25) dX1_meetAnswer_17 (by decide) (fun hc => ?_) (fun hc => ?_)
  · have k := k.1 hc
    refine aw_aload_n 1 dX1_meetAnswer_25 rfl rfl ?_
    obtain ⟨o1, k⟩ := k
    refine aw_getI dX1_meetAnswer_26 fl_X1_135 rfl o1 (x := (h v1 2)) rfl ?_
    rcases (show (h v1 2) = 1 ∨ (h v1 2) = 2 ∨ (h v1 2) = 3 ∨ (h v1 2) = 4 ∨ ((h v1 2) < 1 ∨ 4 < (h v1 2)) by omega) with hc | hc | hc | hc | hc
    · have k := k.1 hc
      refine aw_tableIn (x := (h v1 2)) (tgt := 60) dX1_meetAnswer_29 (by omega) (by omega) (by rw [hc]; rfl) (by decide) ?_
      refine aw_aload_n 0 dX1_meetAnswer_60 rfl rfl ?_
      refine aw_aload_n 1 dX1_meetAnswer_61 rfl rfl ?_
      refine aw_getI dX1_meetAnswer_62 fl_X1_227 rfl o1 (x := (h v1 4)) rfl ?_
      obtain ⟨o2, k⟩ := k
      obtain ⟨o3, k⟩ := k
      obtain ⟨o4, k⟩ := k
      refine aw_callV (M' := mm_X1_bringHome) 1 [vI (h v1 4)] [] lk_X1_230 ⟨_, rfl, rfl⟩ dX1_meetAnswer_65 rfl (Nat.le_of_ble_eq_true rfl) ⟨by decide, by decide, o2, o3⟩ o4 ?_
      exact k.mono (fun _ _ z => aw_sub [] rfl z)
    · have k := k.2.1 hc
      refine aw_tableIn (x := (h v1 2)) (tgt := 71) dX1_meetAnswer_29 (by omega) (by omega) (by rw [hc]; rfl) (by decide) ?_
      refine aw_aload_n 0 dX1_meetAnswer_71 rfl rfl ?_
      obtain ⟨o5, k⟩ := k
      obtain ⟨o6, k⟩ := k
      obtain ⟨o7, k⟩ := k
      refine aw_callV (M' := mm_X1_tryAgain) 1 [] [] lk_X1_224 ⟨_, rfl, rfl⟩ dX1_meetAnswer_72 rfl (Nat.le_of_ble_eq_true rfl) ⟨by decide, by decide, o5, o6⟩ o7 ?_
      exact k.mono (fun _ _ z => aw_sub [] rfl z)
    · have k := k.2.2.1 hc
      refine aw_tableIn (x := (h v1 2)) (tgt := 78) dX1_meetAnswer_29 (by omega) (by omega) (by rw [hc]; rfl) (by decide) ?_
      refine aw_aload_n 0 dX1_meetAnswer_78 rfl rfl ?_
      obtain ⟨o8, k⟩ := k
      obtain ⟨o9, k⟩ := k
      obtain ⟨o10, k⟩ := k
      refine aw_callV (M' := mm_X1_bearBusy) 1 [] [] lk_X1_233 ⟨_, rfl, rfl⟩ dX1_meetAnswer_79 rfl (Nat.le_of_ble_eq_true rfl) ⟨by decide, by decide, o8, o9⟩ o10 ?_
      exact k.mono (fun _ _ z => aw_sub [] rfl z)
    · have k := k.2.2.2.1 hc
      refine aw_tableIn (x := (h v1 2)) (tgt := 85) dX1_meetAnswer_29 (by omega) (by omega) (by rw [hc]; rfl) (by decide) ?_
      refine aw_aload_n 0 dX1_meetAnswer_85 rfl rfl ?_
      refine aw_iconst dX1_meetAnswer_86 ⟨by decide, by decide⟩ ?_
      refine aw_aload_n 1 dX1_meetAnswer_87 rfl rfl ?_
      refine aw_getI dX1_meetAnswer_88 fl_X1_227 rfl o1 (x := (h v1 4)) rfl ?_
      obtain ⟨o11, k⟩ := k
      obtain ⟨o12, k⟩ := k
      obtain ⟨o13, k⟩ := k
      refine aw_callV (M' := mm_X1_finishOldest) 1 [vI 1, vI (h v1 4)] [] lk_X1_236 ⟨_, rfl, rfl⟩ dX1_meetAnswer_91 rfl (Nat.le_of_ble_eq_true rfl) ⟨by decide, by decide, o11, o12⟩ o13 ?_
      exact k.mono (fun _ _ z => aw_sub [0] rfl z)
    · have k := k.2.2.2.2 hc
      refine aw_tableOut (x := (h v1 2)) (tgt := 101) dX1_meetAnswer_29 hc (by decide) ?_
      exact aw_vret dX1_meetAnswer_101 rfl k
  · have k := k.2 hc
    refine aw_aload_n 0 dX1_meetAnswer_20 rfl rfl ?_
    obtain ⟨o14, k⟩ := k
    obtain ⟨o15, k⟩ := k
    obtain ⟨o16, k⟩ := k
    refine aw_callV (M' := mm_X1_tryAgain) 1 [] [] lk_X1_224 ⟨_, rfl, rfl⟩ dX1_meetAnswer_21 rfl (Nat.le_of_ble_eq_true rfl) ⟨by decide, by decide, o14, o15⟩ o16 ?_
    exact k.mono (fun _ _ z => aw_sub [] rfl z)
set_option maxRecDepth 20000 in
theorem sg_X1_meetAnswer_68 {G : GG} {b : Nat × Nat} {Q : Option VV → Hp → Prop} {h : Hp} (k : Q none h) : AW G mm_X1_meetAnswer b 68 [] [] h Q := by
  refine aw_goto (tgt := 101) dX1_meetAnswer_68 (by decide) ?_
  exact aw_vret dX1_meetAnswer_101 rfl k
set_option maxRecDepth 20000 in
theorem sg_X1_meetAnswer_75 {G : GG} {b : Nat × Nat} {Q : Option VV → Hp → Prop} {h : Hp} (k : Q none h) : AW G mm_X1_meetAnswer b 75 [] [] h Q := by
  refine aw_goto (tgt := 101) dX1_meetAnswer_75 (by decide) ?_
  exact aw_vret dX1_meetAnswer_101 rfl k
set_option maxRecDepth 20000 in
theorem sg_X1_meetAnswer_82 {G : GG} {b : Nat × Nat} {Q : Option VV → Hp → Prop} {h : Hp} (k : Q none h) : AW G mm_X1_meetAnswer b 82 [] [] h Q := by
  refine aw_goto (tgt := 101) dX1_meetAnswer_82 (by decide) ?_
  exact aw_vret dX1_meetAnswer_101 rfl k
set_option maxRecDepth 20000 in
theorem sg_X1_meetAnswer_94 {G : GG} {b : Nat × Nat} {Q : Option VV → Hp → Prop} {v0 : Int} {h : Hp} (k : (7 ≤ b.1) ∧ (42 ≤ b.2) ∧ (h v0 (-1) = 2) ∧ Runs G mm_X1_breakUp [vR v0] h (fun r h' => AW G mm_X1_meetAnswer (b.1 - 7, b.2 - 42) 98 [] (r.toList ++ []) h' Q)) : AW G mm_X1_meetAnswer b 94 [(0, vR v0)] [] h Q := by
  refine aw_aload_n 0 dX1_meetAnswer_94 rfl rfl ?_
  obtain ⟨o1, k⟩ := k
  obtain ⟨o2, k⟩ := k
  obtain ⟨o3, k⟩ := k
  refine aw_callV (M' := mm_X1_breakUp) 1 [] [] lk_X1_184 ⟨_, rfl, rfl⟩ dX1_meetAnswer_95 rfl (Nat.le_of_ble_eq_true rfl) ⟨by decide, by decide, o1, o2⟩ o3 ?_
  exact k.mono (fun _ _ z => aw_sub [] rfl z)
set_option maxRecDepth 20000 in
theorem sg_X1_meetAnswer_24 {G : GG} {b : Nat × Nat} {Q : Option VV → Hp → Prop} {h : Hp} (k : Q none h) : AW G mm_X1_meetAnswer b 24 [] [] h Q := by
  exact aw_vret dX1_meetAnswer_24 rfl k
set_option maxRecDepth 20000 in
theorem sg_X1_meetAnswer_98 {G : GG} {b : Nat × Nat} {Q : Option VV → Hp → Prop} {h : Hp} (k : Q none h) : AW G mm_X1_meetAnswer b 98 [] [] h Q := by
  refine aw_goto (tgt := 101) dX1_meetAnswer_98 (by decide) ?_
  exact aw_vret dX1_meetAnswer_101 rfl k
set_option maxRecDepth 20000 in
theorem sg_X1_meetExpected_0 {G : GG} {b : Nat × Nat} {Q : Option VV → Hp → Prop} {v0 v1 : Int} {h : Hp} (k : (h v1 (-1) = 6) ∧ ((¬ (h v1 5) = 0) → (7 ≤ b.1) ∧ (42 ≤ b.2) ∧ (h v0 (-1) = 2) ∧ Runs G mm_X1_reach [vR v0, vR v1] h (fun r h' => AW G mm_X1_meetExpected (b.1 - 7, b.2 - 42) 20 [(0, vR v0), (1, vR v1)] (r.toList ++ []) h' Q)) ∧ (((h v1 5) = 0) → (1 ≤ b.1) ∧ (6 ≤ b.2) ∧ (h v0 (-1) = 2) ∧ Runs G mm_X1_takeIn [vR v0, vR v1] h (fun r h' => AW G mm_X1_meetExpected (b.1 - 1, b.2 - 6) 12 [(0, vR v0), (1, vR v1)] (r.toList ++ []) h' Q))) : AW G mm_X1_meetExpected b 0 [(0, vR v0), (1, vR v1)] [] h Q := by
  refine aw_aload_n 1 dX1_meetExpected_0 rfl rfl ?_
  obtain ⟨o1, k⟩ := k
  refine aw_getI dX1_meetExpected_1 fl_X1_155 rfl o1 (x := (h v1 5)) rfl ?_
  refine aw_if_ne (tgt := 15) dX1_meetExpected_4 (by decide) (fun hc => ?_) (fun hc => ?_)
  · have k := k.1 hc
    refine aw_aload_n 0 dX1_meetExpected_15 rfl rfl ?_
    refine aw_aload_n 1 dX1_meetExpected_16 rfl rfl ?_
    obtain ⟨o2, k⟩ := k
    obtain ⟨o3, k⟩ := k
    obtain ⟨o4, k⟩ := k
    refine aw_callV (M' := mm_X1_reach) 1 [vR v1] [] lk_X1_156 ⟨_, rfl, rfl⟩ dX1_meetExpected_17 rfl (Nat.le_of_ble_eq_true rfl) ⟨by decide, by decide, o2, o3⟩ o4 ?_
    exact k
  · have k := k.2 hc
    refine aw_aload_n 0 dX1_meetExpected_7 rfl rfl ?_
    refine aw_aload_n 1 dX1_meetExpected_8 rfl rfl ?_
    obtain ⟨o5, k⟩ := k
    obtain ⟨o6, k⟩ := k
    obtain ⟨o7, k⟩ := k
    refine aw_callV (M' := mm_X1_takeIn) 1 [vR v1] [] lk_X1_163 ⟨_, rfl, rfl⟩ dX1_meetExpected_9 rfl (Nat.le_of_ble_eq_true rfl) ⟨by decide, by decide, o5, o6⟩ o7 ?_
    exact k
theorem rn_X1_meetExpected {G : GG} {Q : Option VV → Hp → Prop} {v0 v1 : Int} {h : Hp} (k : (h v1 (-1) = 6) ∧ ((¬ (h v1 5) = 0) → (7 ≤ 7) ∧ (42 ≤ 42) ∧ (h v0 (-1) = 2) ∧ Runs G mm_X1_reach [vR v0, vR v1] h (fun r h' => AW G mm_X1_meetExpected (7 - 7, 42 - 42) 20 [(0, vR v0), (1, vR v1)] (r.toList ++ []) h' Q)) ∧ (((h v1 5) = 0) → (1 ≤ 7) ∧ (6 ≤ 42) ∧ (h v0 (-1) = 2) ∧ Runs G mm_X1_takeIn [vR v0, vR v1] h (fun r h' => AW G mm_X1_meetExpected (7 - 1, 42 - 6) 12 [(0, vR v0), (1, vR v1)] (r.toList ++ []) h' Q))) : Runs G mm_X1_meetExpected [vR v0, vR v1] h Q := Runs.of (by decide +kernel) (Nat.le_of_ble_eq_true rfl) (sg_X1_meetExpected_0 (b := (7, 42)) k)
set_option maxRecDepth 20000 in
theorem sg_X1_meetExpected_20 {G : GG} {b : Nat × Nat} {Q : Option VV → Hp → Prop} {v0 v1 s0 : Int} {h : Hp} (k : ((s0 = (-1)) → Q none h) ∧ ((¬ (s0 = (-1))) → (h v1 (-1) = 6) ∧ (inI ((h v1 3) + 1)) ∧ (h v0 (-1) = 2) ∧ ∀ h1, h1 = wr h v0 9 ((h v1 3) + 1) → ∀ h2, h2 = wr h1 v0 13 0 → Runs G mm_X1_answer [vR v0, vI 1, vI (h v1 3), vI s0] h2 (fun r h' => AW G mm_X1_meetExpected b 51 [] (r.toList ++ []) h' Q))) : AW G mm_X1_meetExpected b 20 [(0, vR v0), (1, vR v1)] [vI s0] h Q := by
  refine aw_istore_n dX1_meetExpected_20 rfl (by decide) ?_
  refine aw_iload_n 0 dX1_meetExpected_21 rfl rfl ?_
  refine aw_iconst dX1_meetExpected_22 ⟨by decide, by decide⟩ ?_
  refine aw_icmp_eq (tgt := 51) dX1_meetExpected_23 (by decide) (fun hc => ?_) (fun hc => ?_)
  · have k := k.1 hc
    exact aw_vret dX1_meetExpected_51 rfl k
  · have k := k.2 hc
    refine aw_aload_n 1 dX1_meetExpected_26 rfl rfl ?_
    refine aw_aload_n 2 dX1_meetExpected_27 rfl rfl ?_
    obtain ⟨o1, k⟩ := k
    refine aw_getI dX1_meetExpected_28 fl_X1_142 rfl o1 (x := (h v1 3)) rfl ?_
    refine aw_iconst dX1_meetExpected_31 ⟨by decide, by decide⟩ ?_
    obtain ⟨o2, k⟩ := k
    refine aw_iadd dX1_meetExpected_32 o2 ?_
    obtain ⟨o3, k⟩ := k
    refine aw_putI dX1_meetExpected_33 fl_X1_38 (fun q hq hf => by cases hq; cases hf) rfl rfl o3 ?_
    refine aw_hp (fun h1 e4 => ?_)
    have k := k h1 e4
    refine aw_aload_n 1 dX1_meetExpected_36 rfl rfl ?_
    refine aw_iconst dX1_meetExpected_37 ⟨by decide, by decide⟩ ?_
    have q5 := sh_w e4 (by decide) o3
    refine aw_putZ dX1_meetExpected_38 fl_X1_50 (fun q hq hf => by cases hq; cases hf) rfl rfl (by decide) q5 ?_
    refine aw_hp (fun h2 e6 => ?_)
    have k := k h2 e6
    refine aw_aload_n 1 dX1_meetExpected_41 rfl rfl ?_
    refine aw_iconst dX1_meetExpected_42 ⟨by decide, by decide⟩ ?_
    refine aw_aload_n 2 dX1_meetExpected_43 rfl rfl ?_
    have q7 := sh_w e4 (by decide) o1
    have q8 := sh_w e6 (by decide) q7
    refine aw_getI dX1_meetExpected_44 fl_X1_142 rfl q8 (x := (h v1 3)) ((rd_a e6 v1 3 (ne_sh q5 q7 (by decide))).trans (rd_a e4 v1 3 (ne_sh o3 o1 (by decide)))) ?_
    refine aw_iload_n 0 dX1_meetExpected_47 rfl rfl ?_
    have q9 := sh_w e6 (by decide) q5
    refine aw_callV (M' := mm_X1_answer) 1 [vI 1, vI (h v1 3), vI s0] [] lk_X1_152 ⟨_, rfl, rfl⟩ dX1_meetExpected_48 rfl (Nat.le_of_ble_eq_true rfl) ⟨by decide, by decide, Nat.zero_le _, Nat.zero_le _⟩ q9 ?_
    exact k.mono (fun _ _ z => aw_sub [] rfl z)
set_option maxRecDepth 20000 in
theorem sg_X1_meetExpected_12 {G : GG} {b : Nat × Nat} {Q : Option VV → Hp → Prop} {v0 v1 s0 : Int} {h : Hp} (k : ((s0 = (-1)) → Q none h) ∧ ((¬ (s0 = (-1))) → (h v1 (-1) = 6) ∧ (inI ((h v1 3) + 1)) ∧ (h v0 (-1) = 2) ∧ ∀ h1, h1 = wr h v0 9 ((h v1 3) + 1) → ∀ h2, h2 = wr h1 v0 13 0 → Runs G mm_X1_answer [vR v0, vI 1, vI (h v1 3), vI s0] h2 (fun r h' => AW G mm_X1_meetExpected b 51 [] (r.toList ++ []) h' Q))) : AW G mm_X1_meetExpected b 12 [(0, vR v0), (1, vR v1)] [vI s0] h Q := by
  refine aw_goto (tgt := 20) dX1_meetExpected_12 (by decide) ?_
  refine aw_istore_n dX1_meetExpected_20 rfl (by decide) ?_
  refine aw_iload_n 0 dX1_meetExpected_21 rfl rfl ?_
  refine aw_iconst dX1_meetExpected_22 ⟨by decide, by decide⟩ ?_
  refine aw_icmp_eq (tgt := 51) dX1_meetExpected_23 (by decide) (fun hc => ?_) (fun hc => ?_)
  · have k := k.1 hc
    exact aw_vret dX1_meetExpected_51 rfl k
  · have k := k.2 hc
    refine aw_aload_n 1 dX1_meetExpected_26 rfl rfl ?_
    refine aw_aload_n 2 dX1_meetExpected_27 rfl rfl ?_
    obtain ⟨o1, k⟩ := k
    refine aw_getI dX1_meetExpected_28 fl_X1_142 rfl o1 (x := (h v1 3)) rfl ?_
    refine aw_iconst dX1_meetExpected_31 ⟨by decide, by decide⟩ ?_
    obtain ⟨o2, k⟩ := k
    refine aw_iadd dX1_meetExpected_32 o2 ?_
    obtain ⟨o3, k⟩ := k
    refine aw_putI dX1_meetExpected_33 fl_X1_38 (fun q hq hf => by cases hq; cases hf) rfl rfl o3 ?_
    refine aw_hp (fun h1 e4 => ?_)
    have k := k h1 e4
    refine aw_aload_n 1 dX1_meetExpected_36 rfl rfl ?_
    refine aw_iconst dX1_meetExpected_37 ⟨by decide, by decide⟩ ?_
    have q5 := sh_w e4 (by decide) o3
    refine aw_putZ dX1_meetExpected_38 fl_X1_50 (fun q hq hf => by cases hq; cases hf) rfl rfl (by decide) q5 ?_
    refine aw_hp (fun h2 e6 => ?_)
    have k := k h2 e6
    refine aw_aload_n 1 dX1_meetExpected_41 rfl rfl ?_
    refine aw_iconst dX1_meetExpected_42 ⟨by decide, by decide⟩ ?_
    refine aw_aload_n 2 dX1_meetExpected_43 rfl rfl ?_
    have q7 := sh_w e4 (by decide) o1
    have q8 := sh_w e6 (by decide) q7
    refine aw_getI dX1_meetExpected_44 fl_X1_142 rfl q8 (x := (h v1 3)) ((rd_a e6 v1 3 (ne_sh q5 q7 (by decide))).trans (rd_a e4 v1 3 (ne_sh o3 o1 (by decide)))) ?_
    refine aw_iload_n 0 dX1_meetExpected_47 rfl rfl ?_
    have q9 := sh_w e6 (by decide) q5
    refine aw_callV (M' := mm_X1_answer) 1 [vI 1, vI (h v1 3), vI s0] [] lk_X1_152 ⟨_, rfl, rfl⟩ dX1_meetExpected_48 rfl (Nat.le_of_ble_eq_true rfl) ⟨by decide, by decide, Nat.zero_le _, Nat.zero_le _⟩ q9 ?_
    exact k.mono (fun _ _ z => aw_sub [] rfl z)
set_option maxRecDepth 20000 in
theorem sg_X1_meetExpected_51 {G : GG} {b : Nat × Nat} {Q : Option VV → Hp → Prop} {h : Hp} (k : Q none h) : AW G mm_X1_meetExpected b 51 [] [] h Q := by
  exact aw_vret dX1_meetExpected_51 rfl k
set_option maxRecDepth 20000 in
theorem sg_X1_meetOldRequest_0 {G : GG} {b : Nat × Nat} {Q : Option VV → Hp → Prop} {v0 v1 : Int} {h : Hp} (k : (h v1 (-1) = 6) ∧ ((¬ (h v1 5) = 2) → ((¬ ((h v1 5) = 2 ∨ (h v1 5) = 3 ∨ (h v1 5) = 4)) → (h v0 (-1) = 2) ∧ Runs G mm_X1_answer [vR v0, vI 1, vI (h v1 3), vI 0] h (fun r h' => AW G mm_X1_meetOldRequest b 56 [] (r.toList ++ []) h' Q)) ∧ (((h v1 5) = 2 ∨ (h v1 5) = 3 ∨ (h v1 5) = 4) → (h v0 (-1) = 2) ∧ (h (h v0 5) (-1) = 1) ∧ Runs G mm_X0_toldOf [vR (h v0 5), vI (h v1 3)] h (fun r h' => AW G mm_X1_meetOldRequest b 40 [(0, vR v0), (1, vR v1)] (r.toList ++ []) h' Q))) ∧ (((h v1 5) = 2) → (7 ≤ b.1) ∧ (42 ≤ b.2) ∧ (h v0 (-1) = 2) ∧ Runs G mm_X1_reach [vR v0, vR v1] h (fun r h' => AW G mm_X1_meetOldRequest (b.1 - 7, b.2 - 42) 15 [(0, vR v0), (1, vR v1)] (r.toList ++ []) h' Q))) : AW G mm_X1_meetOldRequest b 0 [(0, vR v0), (1, vR v1)] [] h Q := by
  refine aw_iconst dX1_meetOldRequest_0 ⟨by decide, by decide⟩ ?_
  refine aw_istore_n dX1_meetOldRequest_1 rfl (by decide) ?_
  refine aw_aload_n 2 dX1_meetOldRequest_2 rfl rfl ?_
  obtain ⟨o1, k⟩ := k
  refine aw_getI dX1_meetOldRequest_3 fl_X1_155 rfl o1 (x := (h v1 5)) rfl ?_
  refine aw_iconst dX1_meetOldRequest_6 ⟨by decide, by decide⟩ ?_
  refine aw_icmp_ne (tgt := 19) dX1_meetOldRequest_7 (by decide) (fun hc => ?_) (fun hc => ?_)
  · have k := k.1 hc
    refine aw_aload_n 2 dX1_meetOldRequest_19 rfl rfl ?_
    refine aw_getI dX1_meetOldRequest_20 fl_X1_155 rfl o1 (x := (h v1 5)) rfl ?_
    refine aw_callSN (M' := mm_X9_isFetch) [vI (h v1 5)] [] lk_X1_83 dX1_meetOldRequest_23 rfl (Nat.le_of_ble_eq_true rfl) ⟨by decide, by decide, Nat.zero_le _, Nat.zero_le _⟩ ?_
    refine pu_X9_isFetch ?_
    refine aw_if_eq (tgt := 41) dX1_meetOldRequest_26 (by decide) (fun hc => ?_) (fun hc => ?_)
    · have k := k.1 (b2i_0.mp hc)
      refine aw_iload_n 0 dX1_meetOldRequest_41 rfl rfl ?_
      refine aw_iconst dX1_meetOldRequest_42 ⟨by decide, by decide⟩ ?_
      refine aw_icmp_eq (tgt := 56) dX1_meetOldRequest_43 (by decide) (fun hc => absurd hc (by decide)) (fun _ => ?_)
      refine aw_aload_n 1 dX1_meetOldRequest_46 rfl rfl ?_
      refine aw_iconst dX1_meetOldRequest_47 ⟨by decide, by decide⟩ ?_
      refine aw_aload_n 2 dX1_meetOldRequest_48 rfl rfl ?_
      refine aw_getI dX1_meetOldRequest_49 fl_X1_142 rfl o1 (x := (h v1 3)) rfl ?_
      refine aw_iload_n 0 dX1_meetOldRequest_52 rfl rfl ?_
      obtain ⟨o2, k⟩ := k
      refine aw_callV (M' := mm_X1_answer) 1 [vI 1, vI (h v1 3), vI 0] [] lk_X1_152 ⟨_, rfl, rfl⟩ dX1_meetOldRequest_53 rfl (Nat.le_of_ble_eq_true rfl) ⟨by decide, by decide, Nat.zero_le _, Nat.zero_le _⟩ o2 ?_
      exact k.mono (fun _ _ z => aw_sub [] rfl z)
    · have k := k.2 (b2i_n.mp hc)
      refine aw_aload_n 1 dX1_meetOldRequest_29 rfl rfl ?_
      obtain ⟨o3, k⟩ := k
      refine aw_getR dX1_meetOldRequest_30 fl_X1_24 rfl o3 (x := (h v0 5)) rfl ?_
      refine aw_aload_n 2 dX1_meetOldRequest_33 rfl rfl ?_
      refine aw_getI dX1_meetOldRequest_34 fl_X1_142 rfl o1 (x := (h v1 3)) rfl ?_
      obtain ⟨o4, k⟩ := k
      refine aw_callV (M' := mm_X0_toldOf) 0 [vI (h v1 3)] [] lk_X1_160 ⟨_, rfl, rfl⟩ dX1_meetOldRequest_37 rfl (Nat.le_of_ble_eq_true rfl) ⟨by decide, by decide, Nat.zero_le _, Nat.zero_le _⟩ o4 ?_
      exact k.mono (fun _ _ z => aw_sub [1, 2] rfl z)
  · have k := k.2 hc
    refine aw_aload_n 1 dX1_meetOldRequest_10 rfl rfl ?_
    refine aw_aload_n 2 dX1_meetOldRequest_11 rfl rfl ?_
    obtain ⟨o5, k⟩ := k
    obtain ⟨o6, k⟩ := k
    obtain ⟨o7, k⟩ := k
    refine aw_callV (M' := mm_X1_reach) 1 [vR v1] [] lk_X1_156 ⟨_, rfl, rfl⟩ dX1_meetOldRequest_12 rfl (Nat.le_of_ble_eq_true rfl) ⟨by decide, by decide, o5, o6⟩ o7 ?_
    exact k.mono (fun _ _ z => aw_sub [1, 2] rfl z)
theorem rn_X1_meetOldRequest {G : GG} {Q : Option VV → Hp → Prop} {v0 v1 : Int} {h : Hp} (k : (h v1 (-1) = 6) ∧ ((¬ (h v1 5) = 2) → ((¬ ((h v1 5) = 2 ∨ (h v1 5) = 3 ∨ (h v1 5) = 4)) → (h v0 (-1) = 2) ∧ Runs G mm_X1_answer [vR v0, vI 1, vI (h v1 3), vI 0] h (fun r h' => AW G mm_X1_meetOldRequest (7, 42) 56 [] (r.toList ++ []) h' Q)) ∧ (((h v1 5) = 2 ∨ (h v1 5) = 3 ∨ (h v1 5) = 4) → (h v0 (-1) = 2) ∧ (h (h v0 5) (-1) = 1) ∧ Runs G mm_X0_toldOf [vR (h v0 5), vI (h v1 3)] h (fun r h' => AW G mm_X1_meetOldRequest (7, 42) 40 [(0, vR v0), (1, vR v1)] (r.toList ++ []) h' Q))) ∧ (((h v1 5) = 2) → (7 ≤ 7) ∧ (42 ≤ 42) ∧ (h v0 (-1) = 2) ∧ Runs G mm_X1_reach [vR v0, vR v1] h (fun r h' => AW G mm_X1_meetOldRequest (7 - 7, 42 - 42) 15 [(0, vR v0), (1, vR v1)] (r.toList ++ []) h' Q))) : Runs G mm_X1_meetOldRequest [vR v0, vR v1] h Q := Runs.of (by decide +kernel) (Nat.le_of_ble_eq_true rfl) (sg_X1_meetOldRequest_0 (b := (7, 42)) k)
set_option maxRecDepth 20000 in
theorem sg_X1_meetOldRequest_56 {G : GG} {b : Nat × Nat} {Q : Option VV → Hp → Prop} {h : Hp} (k : Q none h) : AW G mm_X1_meetOldRequest b 56 [] [] h Q := by
  exact aw_vret dX1_meetOldRequest_56 rfl k
set_option maxRecDepth 20000 in
theorem sg_X1_meetOldRequest_40 {G : GG} {b : Nat × Nat} {Q : Option VV → Hp → Prop} {v0 v1 s0 : Int} {h : Hp} (k : ((s0 = (-1)) → Q none h) ∧ ((¬ (s0 = (-1))) → (h v1 (-1) = 6) ∧ (h v0 (-1) = 2) ∧ Runs G mm_X1_answer [vR v0, vI 1, vI (h v1 3), vI s0] h (fun r h' => AW G mm_X1_meetOldRequest b 56 [] (r.toList ++ []) h' Q))) : AW G mm_X1_meetOldRequest b 40 [(0, vR v0), (1, vR v1)] [vI s0] h Q := by
  refine aw_istore_n dX1_meetOldRequest_40 rfl (by decide) ?_
  refine aw_iload_n 0 dX1_meetOldRequest_41 rfl rfl ?_
  refine aw_iconst dX1_meetOldRequest_42 ⟨by decide, by decide⟩ ?_
  refine aw_icmp_eq (tgt := 56) dX1_meetOldRequest_43 (by decide) (fun hc => ?_) (fun hc => ?_)
  · have k := k.1 hc
    exact aw_vret dX1_meetOldRequest_56 rfl k
  · have k := k.2 hc
    refine aw_aload_n 1 dX1_meetOldRequest_46 rfl rfl ?_
    refine aw_iconst dX1_meetOldRequest_47 ⟨by decide, by decide⟩ ?_
    refine aw_aload_n 2 dX1_meetOldRequest_48 rfl rfl ?_
    obtain ⟨o1, k⟩ := k
    refine aw_getI dX1_meetOldRequest_49 fl_X1_142 rfl o1 (x := (h v1 3)) rfl ?_
    refine aw_iload_n 0 dX1_meetOldRequest_52 rfl rfl ?_
    obtain ⟨o2, k⟩ := k
    refine aw_callV (M' := mm_X1_answer) 1 [vI 1, vI (h v1 3), vI s0] [] lk_X1_152 ⟨_, rfl, rfl⟩ dX1_meetOldRequest_53 rfl (Nat.le_of_ble_eq_true rfl) ⟨by decide, by decide, Nat.zero_le _, Nat.zero_le _⟩ o2 ?_
    exact k.mono (fun _ _ z => aw_sub [] rfl z)
set_option maxRecDepth 20000 in
theorem sg_X1_meetOldRequest_15 {G : GG} {b : Nat × Nat} {Q : Option VV → Hp → Prop} {v0 v1 s0 : Int} {h : Hp} (k : ((s0 = (-1)) → Q none h) ∧ ((¬ (s0 = (-1))) → (h v1 (-1) = 6) ∧ (h v0 (-1) = 2) ∧ Runs G mm_X1_answer [vR v0, vI 1, vI (h v1 3), vI s0] h (fun r h' => AW G mm_X1_meetOldRequest b 56 [] (r.toList ++ []) h' Q))) : AW G mm_X1_meetOldRequest b 15 [(0, vR v0), (1, vR v1)] [vI s0] h Q := by
  refine aw_istore_n dX1_meetOldRequest_15 rfl (by decide) ?_
  refine aw_goto (tgt := 41) dX1_meetOldRequest_16 (by decide) ?_
  refine aw_iload_n 0 dX1_meetOldRequest_41 rfl rfl ?_
  refine aw_iconst dX1_meetOldRequest_42 ⟨by decide, by decide⟩ ?_
  refine aw_icmp_eq (tgt := 56) dX1_meetOldRequest_43 (by decide) (fun hc => ?_) (fun hc => ?_)
  · have k := k.1 hc
    exact aw_vret dX1_meetOldRequest_56 rfl k
  · have k := k.2 hc
    refine aw_aload_n 1 dX1_meetOldRequest_46 rfl rfl ?_
    refine aw_iconst dX1_meetOldRequest_47 ⟨by decide, by decide⟩ ?_
    refine aw_aload_n 2 dX1_meetOldRequest_48 rfl rfl ?_
    obtain ⟨o1, k⟩ := k
    refine aw_getI dX1_meetOldRequest_49 fl_X1_142 rfl o1 (x := (h v1 3)) rfl ?_
    refine aw_iload_n 0 dX1_meetOldRequest_52 rfl rfl ?_
    obtain ⟨o2, k⟩ := k
    refine aw_callV (M' := mm_X1_answer) 1 [vI 1, vI (h v1 3), vI s0] [] lk_X1_152 ⟨_, rfl, rfl⟩ dX1_meetOldRequest_53 rfl (Nat.le_of_ble_eq_true rfl) ⟨by decide, by decide, Nat.zero_le _, Nat.zero_le _⟩ o2 ?_
    exact k.mono (fun _ _ z => aw_sub [] rfl z)
set_option maxRecDepth 20000 in
theorem sg_X1_openFetches_0 {G : GG} {b : Nat × Nat} {Q : Option VV → Hp → Prop} {v0 : Int} {h : Hp} (k : AW G mm_X1_openFetches b 4 [(0, vR v0), (1, vI 0), (2, vI 0)] [] h Q) : AW G mm_X1_openFetches b 0 [(0, vR v0)] [] h Q := by
  refine aw_iconst dX1_openFetches_0 ⟨by decide, by decide⟩ ?_
  refine aw_istore_n dX1_openFetches_1 rfl (by decide) ?_
  refine aw_iconst dX1_openFetches_2 ⟨by decide, by decide⟩ ?_
  refine aw_istore_n dX1_openFetches_3 rfl (by decide) ?_
  exact aw_sub [2, 1, 0] rfl k
theorem rn_X1_openFetches {G : GG} {Q : Option VV → Hp → Prop} {v0 : Int} {h : Hp} (k : AW G mm_X1_openFetches (0, 0) 4 [(0, vR v0), (1, vI 0), (2, vI 0)] [] h Q) : Runs G mm_X1_openFetches [vR v0] h Q := Runs.of (by decide +kernel) (Nat.le_of_ble_eq_true rfl) (sg_X1_openFetches_0 (b := (0, 0)) k)
set_option maxRecDepth 20000 in
theorem sg_X1_openFetches_4 {G : GG} {b : Nat × Nat} {Q : Option VV → Hp → Prop} {v0 v1 v2 : Int} {h : Hp} (k : (h v0 (-1) = 2) ∧ (((h v0 8) ≤ v2) → Q (some (vI v1)) h) ∧ ((¬ ((h v0 8) ≤ v2)) → (h (h v0 3) (-1) = 38) ∧ (0 ≤ v2) ∧ (v2 < h (h v0 3) (-2)) ∧ (h (h (h v0 3) v2) (-1) = 9) ∧ ((¬ ((h (h (h v0 3) v2) 1) = 2 ∨ (h (h (h v0 3) v2) 1) = 3 ∨ (h (h (h v0 3) v2) 1) = 4)) → (inI (v2 + 1)) ∧ AW G mm_X1_openFetches b 4 [(0, vR v0), (1, vI v1), (2, vI (v2 + 1))] [] h Q) ∧ (((h (h (h v0 3) v2) 1) = 2 ∨ (h (h (h v0 3) v2) 1) = 3 ∨ (h (h (h v0 3) v2) 1) = 4) → (inI (v1 + 1)) ∧ (inI (v2 + 1)) ∧ AW G mm_X1_openFetches b 4 [(0, vR v0), (1, vI (v1 + 1)), (2, vI (v2 + 1))] [] h Q))) : AW G mm_X1_openFetches b 4 [(0, vR v0), (1, vI v1), (2, vI v2)] [] h Q := by
  refine aw_iload_n 2 dX1_openFetches_4 rfl rfl ?_
  refine aw_aload_n 0 dX1_openFetches_5 rfl rfl ?_
  obtain ⟨o1, k⟩ := k
  refine aw_getI dX1_openFetches_6 fl_X1_35 rfl o1 (x := (h v0 8)) rfl ?_
  refine aw_icmp_ge (tgt := 36) dX1_openFetches_9 (by decide) (fun hc => ?_) (fun hc => ?_)
  · have k := k.1 hc
    refine aw_iload_n 1 dX1_openFetches_36 rfl rfl ?_
    exact aw_iret dX1_openFetches_37 rfl k
  · have k := k.2 hc
    refine aw_aload_n 0 dX1_openFetches_12 rfl rfl ?_
    refine aw_getR dX1_openFetches_13 fl_X1_11 rfl o1 (x := (h v0 3)) rfl ?_
    refine aw_iload_n 2 dX1_openFetches_16 rfl rfl ?_
    obtain ⟨o2, k⟩ := k
    obtain ⟨o3, k⟩ := k
    obtain ⟨o4, k⟩ := k
    refine aw_aald 7 8 aq_8 dX1_openFetches_17 o2 o3 o4 (x := (h (h v0 3) v2)) rfl ?_
    obtain ⟨o5, k⟩ := k
    refine aw_getI dX1_openFetches_18 fl_X1_94 rfl o5 (x := (h (h (h v0 3) v2) 1)) rfl ?_
    refine aw_callSN (M' := mm_X9_isFetch) [vI (h (h (h v0 3) v2) 1)] [] lk_X1_83 dX1_openFetches_21 rfl (Nat.le_of_ble_eq_true rfl) ⟨by decide, by decide, Nat.zero_le _, Nat.zero_le _⟩ ?_
    refine pu_X9_isFetch ?_
    refine aw_if_eq (tgt := 30) dX1_openFetches_24 (by decide) (fun hc => ?_) (fun hc => ?_)
    · have k := k.1 (b2i_0.mp hc)
      obtain ⟨o6, k⟩ := k
      refine aw_iinc 2 dX1_openFetches_30 rfl o6 (by decide) ?_
      refine aw_goto (tgt := 4) dX1_openFetches_33 (by decide) ?_
      exact aw_sub [1, 2, 0] rfl k
    · have k := k.2 (b2i_n.mp hc)
      obtain ⟨o7, k⟩ := k
      refine aw_iinc 1 dX1_openFetches_27 rfl o7 (by decide) ?_
      obtain ⟨o8, k⟩ := k
      refine aw_iinc 2 dX1_openFetches_30 rfl o8 (by decide) ?_
      refine aw_goto (tgt := 4) dX1_openFetches_33 (by decide) ?_
      exact aw_sub [2, 1, 0] rfl k
set_option maxRecDepth 20000 in
theorem sg_X1_postReceive_0 {G : GG} {b : Nat × Nat} {Q : Option VV → Hp → Prop} {v0 v1 : Int} {h : Hp} (k : (h v0 (-1) = 2) ∧ (((h v0 6) = 1) → (((h v0 10) < 3) → (h (h v0 4) (-1) = 20) ∧ (0 ≤ (h v0 10)) ∧ ((h v0 10) < h (h v0 4) (-2)) ∧ ∀ h1, h1 = wr h (h v0 4) (h v0 10) v1 → (inI ((h v0 10) + 1)) ∧ ∀ h2, h2 = wr h1 v0 10 ((h v0 10) + 1) → Q (some (vI ((h v0 10) + 1))) h2) ∧ ((¬ ((h v0 10) < 3)) → Q (some (vI (-1004))) h)) ∧ ((¬ ((h v0 6) = 1)) → Q (some (vI (-1003))) h)) : AW G mm_X1_postReceive b 0 [(0, vR v0), (1, vI v1)] [] h Q := by
  refine aw_aload_n 0 dX1_postReceive_0 rfl rfl ?_
  obtain ⟨o1, k⟩ := k
  refine aw_getI dX1_postReceive_1 fl_X1_28 rfl o1 (x := (h v0 6)) rfl ?_
  refine aw_iconst dX1_postReceive_4 ⟨by decide, by decide⟩ ?_
  refine aw_icmp_eq (tgt := 12) dX1_postReceive_5 (by decide) (fun hc => ?_) (fun hc => ?_)
  · have k := k.1 hc
    refine aw_aload_n 0 dX1_postReceive_12 rfl rfl ?_
    refine aw_getI dX1_postReceive_13 fl_X1_41 rfl o1 (x := (h v0 10)) rfl ?_
    refine aw_iconst dX1_postReceive_16 ⟨by decide, by decide⟩ ?_
    refine aw_icmp_lt (tgt := 24) dX1_postReceive_17 (by decide) (fun hc => ?_) (fun hc => ?_)
    · have k := k.1 hc
      refine aw_aload_n 0 dX1_postReceive_24 rfl rfl ?_
      refine aw_getR dX1_postReceive_25 fl_X1_17 rfl o1 (x := (h v0 4)) rfl ?_
      refine aw_aload_n 0 dX1_postReceive_28 rfl rfl ?_
      refine aw_getI dX1_postReceive_29 fl_X1_41 rfl o1 (x := (h v0 10)) rfl ?_
      refine aw_iload_n 1 dX1_postReceive_32 rfl rfl ?_
      obtain ⟨o2, k⟩ := k
      obtain ⟨o3, k⟩ := k
      obtain ⟨o4, k⟩ := k
      refine aw_iast dX1_postReceive_33 o2 o3 o4 ?_
      refine aw_hp (fun h1 e5 => ?_)
      have k := k h1 e5
      refine aw_aload_n 0 dX1_postReceive_34 rfl rfl ?_
      refine aw_dup dX1_postReceive_35 rfl ?_
      have q6 := sh_w e5 o3 o1
      refine aw_getI dX1_postReceive_36 fl_X1_41 rfl q6 (x := (h v0 10)) (rd_a e5 v0 10 (ne_sh o2 o1 (by decide))) ?_
      refine aw_iconst dX1_postReceive_39 ⟨by decide, by decide⟩ ?_
      obtain ⟨o7, k⟩ := k
      refine aw_iadd dX1_postReceive_40 o7 ?_
      refine aw_putI dX1_postReceive_41 fl_X1_41 (fun q hq hf => by cases hq; cases hf) rfl rfl q6 ?_
      refine aw_hp (fun h2 e8 => ?_)
      have k := k h2 e8
      refine aw_aload_n 0 dX1_postReceive_44 rfl rfl ?_
      have q9 := sh_w e8 (by decide) q6
      refine aw_getI dX1_postReceive_45 fl_X1_41 rfl q9 (x := ((h v0 10) + 1)) (rd_e e8) ?_
      exact aw_iret dX1_postReceive_48 rfl k
    · have k := k.2 hc
      refine aw_sipush dX1_postReceive_20 ⟨by decide, by decide⟩ (by decide) ?_
      exact aw_iret dX1_postReceive_23 rfl k
  · have k := k.2 hc
    refine aw_sipush dX1_postReceive_8 ⟨by decide, by decide⟩ (by decide) ?_
    exact aw_iret dX1_postReceive_11 rfl k
theorem rn_X1_postReceive {G : GG} {Q : Option VV → Hp → Prop} {v0 v1 : Int} {h : Hp} (k : (h v0 (-1) = 2) ∧ (((h v0 6) = 1) → (((h v0 10) < 3) → (h (h v0 4) (-1) = 20) ∧ (0 ≤ (h v0 10)) ∧ ((h v0 10) < h (h v0 4) (-2)) ∧ ∀ h1, h1 = wr h (h v0 4) (h v0 10) v1 → (inI ((h v0 10) + 1)) ∧ ∀ h2, h2 = wr h1 v0 10 ((h v0 10) + 1) → Q (some (vI ((h v0 10) + 1))) h2) ∧ ((¬ ((h v0 10) < 3)) → Q (some (vI (-1004))) h)) ∧ ((¬ ((h v0 6) = 1)) → Q (some (vI (-1003))) h)) : Runs G mm_X1_postReceive [vR v0, vI v1] h Q := Runs.of (by decide +kernel) (Nat.le_of_ble_eq_true rfl) (sg_X1_postReceive_0 (b := (0, 0)) k)
