/-! printed by writeseg.py: segments of methods -/
set_option maxRecDepth 20000 in
theorem sg_X10_readyEnds_0 {G : GG} {b : Nat × Nat} {Q : Option VV → Hp → Prop} {v0 : Int} {h : Hp} (k : AW G mm_X10_readyEnds b 4 [(0, vR v0), (1, vI 0), (2, vI 0)] [] h Q) : AW G mm_X10_readyEnds b 0 [(0, vR v0)] [] h Q := by
  refine aw_iconst dX10_readyEnds_0 ⟨by decide, by decide⟩ ?_
  refine aw_istore_n dX10_readyEnds_1 rfl (by decide) ?_
  refine aw_iconst dX10_readyEnds_2 ⟨by decide, by decide⟩ ?_
  refine aw_istore_n dX10_readyEnds_3 rfl (by decide) ?_
  exact aw_sub [2, 1, 0] rfl k
theorem rn_X10_readyEnds {G : GG} {Q : Option VV → Hp → Prop} {v0 : Int} {h : Hp} (k : AW G mm_X10_readyEnds (0, 0) 4 [(0, vR v0), (1, vI 0), (2, vI 0)] [] h Q) : Runs G mm_X10_readyEnds [vR v0] h Q := Runs.of (by decide +kernel) (Nat.le_of_ble_eq_true rfl) (sg_X10_readyEnds_0 (b := (0, 0)) k)
set_option maxRecDepth 20000 in
theorem sg_X10_readyEnds_4 {G : GG} {b : Nat × Nat} {Q : Option VV → Hp → Prop} {v0 v1 v2 : Int} {h : Hp} (k : ((4 ≤ v2) → Q (some (vI v1)) h) ∧ ((¬ (4 ≤ v2)) → (h v0 (-1) = 11) ∧ (h (h v0 4) (-1) = 20) ∧ (0 ≤ v2) ∧ (v2 < h (h v0 4) (-2)) ∧ ((¬ (h (h v0 4) v2) = 1) → (inI (v1 + 0)) ∧ (inI (v2 + 1)) ∧ AW G mm_X10_readyEnds b 4 [(0, vR v0), (1, vI (v1 + 0)), (2, vI (v2 + 1))] [] h Q) ∧ (((h (h v0 4) v2) = 1) → (inI (v1 + 1)) ∧ (inI (v2 + 1)) ∧ AW G mm_X10_readyEnds b 4 [(0, vR v0), (1, vI (v1 + 1)), (2, vI (v2 + 1))] [] h Q))) : AW G mm_X10_readyEnds b 4 [(0, vR v0), (1, vI v1), (2, vI v2)] [] h Q := by
  refine aw_iload_n 2 dX10_readyEnds_4 rfl rfl ?_
  refine aw_iconst dX10_readyEnds_5 ⟨by decide, by decide⟩ ?_
  refine aw_icmp_ge (tgt := 33) dX10_readyEnds_6 (by decide) (fun hc => ?_) (fun hc => ?_)
  · have k := k.1 hc
    refine aw_iload_n 1 dX10_readyEnds_33 rfl rfl ?_
    exact aw_iret dX10_readyEnds_34 rfl k
  · have k := k.2 hc
    refine aw_iload_n 1 dX10_readyEnds_9 rfl rfl ?_
    refine aw_aload_n 0 dX10_readyEnds_10 rfl rfl ?_
    obtain ⟨o1, k⟩ := k
    refine aw_getR dX10_readyEnds_11 fl_X10_22 rfl o1 (x := (h v0 4)) rfl ?_
    refine aw_iload_n 2 dX10_readyEnds_14 rfl rfl ?_
    obtain ⟨o2, k⟩ := k
    obtain ⟨o3, k⟩ := k
    obtain ⟨o4, k⟩ := k
    refine aw_iald dX10_readyEnds_15 o2 o3 o4 (x := (h (h v0 4) v2)) rfl ?_
    refine aw_iconst dX10_readyEnds_16 ⟨by decide, by decide⟩ ?_
    refine aw_icmp_ne (tgt := 24) dX10_readyEnds_17 (by decide) (fun hc => ?_) (fun hc => ?_)
    · have k := k.1 hc
      refine aw_iconst dX10_readyEnds_24 ⟨by decide, by decide⟩ ?_
      obtain ⟨o5, k⟩ := k
      refine aw_iadd dX10_readyEnds_25 o5 ?_
      refine aw_istore_n dX10_readyEnds_26 rfl (by decide) ?_
      obtain ⟨o6, k⟩ := k
      refine aw_iinc 2 dX10_readyEnds_27 rfl o6 (by decide) ?_
      refine aw_goto (tgt := 4) dX10_readyEnds_30 (by decide) ?_
      exact aw_sub [2, 1, 0] rfl k
    · have k := k.2 hc
      refine aw_iconst dX10_readyEnds_20 ⟨by decide, by decide⟩ ?_
      refine aw_goto (tgt := 25) dX10_readyEnds_21 (by decide) ?_
      obtain ⟨o7, k⟩ := k
      refine aw_iadd dX10_readyEnds_25 o7 ?_
      refine aw_istore_n dX10_readyEnds_26 rfl (by decide) ?_
      obtain ⟨o8, k⟩ := k
      refine aw_iinc 2 dX10_readyEnds_27 rfl o8 (by decide) ?_
      refine aw_goto (tgt := 4) dX10_readyEnds_30 (by decide) ?_
      exact aw_sub [2, 1, 0] rfl k
set_option maxRecDepth 20000 in
theorem sg_X10_reasonOf_0 {G : GG} {b : Nat × Nat} {Q : Option VV → Hp → Prop} {v0 v1 v2 v3 : Int} {h : Hp} (k : ((¬ v3 = 1) → ((¬ v3 = 2) → (h v0 (-1) = 11) ∧ (h (h v0 2) (-1) = 20) ∧ (0 ≤ v1) ∧ (v1 < h (h v0 2) (-2)) ∧ ((¬ (h (h v0 2) v1) = 0) → ((v2 < (h (h v0 2) v1)) → (h (h v0 3) (-1) = 20) ∧ (v1 < h (h v0 3) (-2)) ∧ ((¬ (iAnd (h (h v0 3) v1) 4) = 0) → Q (some (vI 0)) h) ∧ (((iAnd (h (h v0 3) v1) 4) = 0) → Q (some (vI 3)) h)) ∧ ((¬ (v2 < (h (h v0 2) v1))) → Q (some (vI 2)) h)) ∧ (((h (h v0 2) v1) = 0) → Q (some (vI 1)) h)) ∧ ((v3 = 2) → (h v0 (-1) = 11) ∧ (h (h v0 2) (-1) = 20) ∧ (0 ≤ v1) ∧ (v1 < h (h v0 2) (-2)) ∧ ((¬ (h (h v0 2) v1) = 0) → ((v2 < (h (h v0 2) v1)) → (h (h v0 3) (-1) = 20) ∧ (v1 < h (h v0 3) (-2)) ∧ ((¬ (iAnd (h (h v0 3) v1) 1) = 0) → Q (some (vI 0)) h) ∧ (((iAnd (h (h v0 3) v1) 1) = 0) → Q (some (vI 3)) h)) ∧ ((¬ (v2 < (h (h v0 2) v1))) → Q (some (vI 2)) h)) ∧ (((h (h v0 2) v1) = 0) → Q (some (vI 1)) h))) ∧ ((v3 = 1) → (h v0 (-1) = 11) ∧ (h (h v0 2) (-1) = 20) ∧ (0 ≤ v1) ∧ (v1 < h (h v0 2) (-2)) ∧ ((¬ (h (h v0 2) v1) = 0) → ((v2 < (h (h v0 2) v1)) → (h (h v0 3) (-1) = 20) ∧ (v1 < h (h v0 3) (-2)) ∧ ((¬ (iAnd (h (h v0 3) v1) 2) = 0) → Q (some (vI 0)) h) ∧ (((iAnd (h (h v0 3) v1) 2) = 0) → Q (some (vI 3)) h)) ∧ ((¬ (v2 < (h (h v0 2) v1))) → Q (some (vI 2)) h)) ∧ (((h (h v0 2) v1) = 0) → Q (some (vI 1)) h))) : AW G mm_X10_reasonOf b 0 [(0, vR v0), (1, vI v1), (2, vI v2), (3, vI v3)] [] h Q := by
  refine aw_iload_n 3 dX10_reasonOf_0 rfl rfl ?_
  refine aw_iconst dX10_reasonOf_1 ⟨by decide, by decide⟩ ?_
  refine aw_icmp_ne (tgt := 9) dX10_reasonOf_2 (by decide) (fun hc => ?_) (fun hc => ?_)
  · have k := k.1 hc
    refine aw_iload_n 3 dX10_reasonOf_9 rfl rfl ?_
    refine aw_iconst dX10_reasonOf_10 ⟨by decide, by decide⟩ ?_
    refine aw_icmp_ne (tgt := 18) dX10_reasonOf_11 (by decide) (fun hc => ?_) (fun hc => ?_)
    · have k := k.1 hc
      refine aw_iconst dX10_reasonOf_18 ⟨by decide, by decide⟩ ?_
      refine aw_istore dX10_reasonOf_19 (by decide) ?_
      refine aw_aload_n 1 dX10_reasonOf_21 rfl rfl ?_
      obtain ⟨o1, k⟩ := k
      refine aw_getR dX10_reasonOf_22 fl_X10_16 rfl o1 (x := (h v0 2)) rfl ?_
      refine aw_iload_n 2 dX10_reasonOf_25 rfl rfl ?_
      obtain ⟨o2, k⟩ := k
      obtain ⟨o3, k⟩ := k
      obtain ⟨o4, k⟩ := k
      refine aw_iald dX10_reasonOf_26 o2 o3 o4 (x := (h (h v0 2) v1)) rfl ?_
      refine aw_if_ne (tgt := 34) dX10_reasonOf_27 (by decide) (fun hc => ?_) (fun hc => ?_)
      · have k := k.1 hc
        refine aw_iload_n 3 dX10_reasonOf_34 rfl rfl ?_
        refine aw_aload_n 1 dX10_reasonOf_35 rfl rfl ?_
        refine aw_getR dX10_reasonOf_36 fl_X10_16 rfl o1 (x := (h v0 2)) rfl ?_
        refine aw_iload_n 2 dX10_reasonOf_39 rfl rfl ?_
        refine aw_iald dX10_reasonOf_40 o2 o3 o4 (x := (h (h v0 2) v1)) rfl ?_
        refine aw_icmp_lt (tgt := 48) dX10_reasonOf_41 (by decide) (fun hc => ?_) (fun hc => ?_)
        · have k := k.1 hc
          refine aw_aload_n 1 dX10_reasonOf_48 rfl rfl ?_
          refine aw_getR dX10_reasonOf_49 fl_X10_19 rfl o1 (x := (h v0 3)) rfl ?_
          refine aw_iload_n 2 dX10_reasonOf_52 rfl rfl ?_
          obtain ⟨o5, k⟩ := k
          obtain ⟨o6, k⟩ := k
          refine aw_iald dX10_reasonOf_53 o5 o3 o6 (x := (h (h v0 3) v1)) rfl ?_
          refine aw_iload 0 dX10_reasonOf_54 rfl ?_
          refine aw_iand dX10_reasonOf_56 ?_
          refine aw_if_ne (tgt := 64) dX10_reasonOf_57 (by decide) (fun hc => ?_) (fun hc => ?_)
          · have k := k.1 hc
            refine aw_iconst dX10_reasonOf_64 ⟨by decide, by decide⟩ ?_
            exact aw_iret dX10_reasonOf_65 rfl k
          · have k := k.2 hc
            refine aw_iconst dX10_reasonOf_60 ⟨by decide, by decide⟩ ?_
            refine aw_goto (tgt := 65) dX10_reasonOf_61 (by decide) ?_
            exact aw_iret dX10_reasonOf_65 rfl k
        · have k := k.2 hc
          refine aw_iconst dX10_reasonOf_44 ⟨by decide, by decide⟩ ?_
          refine aw_goto (tgt := 65) dX10_reasonOf_45 (by decide) ?_
          exact aw_iret dX10_reasonOf_65 rfl k
      · have k := k.2 hc
        refine aw_iconst dX10_reasonOf_30 ⟨by decide, by decide⟩ ?_
        refine aw_goto (tgt := 65) dX10_reasonOf_31 (by decide) ?_
        exact aw_iret dX10_reasonOf_65 rfl k
    · have k := k.2 hc
      refine aw_iconst dX10_reasonOf_14 ⟨by decide, by decide⟩ ?_
      refine aw_goto (tgt := 19) dX10_reasonOf_15 (by decide) ?_
      refine aw_istore dX10_reasonOf_19 (by decide) ?_
      refine aw_aload_n 1 dX10_reasonOf_21 rfl rfl ?_
      obtain ⟨o7, k⟩ := k
      refine aw_getR dX10_reasonOf_22 fl_X10_16 rfl o7 (x := (h v0 2)) rfl ?_
      refine aw_iload_n 2 dX10_reasonOf_25 rfl rfl ?_
      obtain ⟨o8, k⟩ := k
      obtain ⟨o9, k⟩ := k
      obtain ⟨o10, k⟩ := k
      refine aw_iald dX10_reasonOf_26 o8 o9 o10 (x := (h (h v0 2) v1)) rfl ?_
      refine aw_if_ne (tgt := 34) dX10_reasonOf_27 (by decide) (fun hc => ?_) (fun hc => ?_)
      · have k := k.1 hc
        refine aw_iload_n 3 dX10_reasonOf_34 rfl rfl ?_
        refine aw_aload_n 1 dX10_reasonOf_35 rfl rfl ?_
        refine aw_getR dX10_reasonOf_36 fl_X10_16 rfl o7 (x := (h v0 2)) rfl ?_
        refine aw_iload_n 2 dX10_reasonOf_39 rfl rfl ?_
        refine aw_iald dX10_reasonOf_40 o8 o9 o10 (x := (h (h v0 2) v1)) rfl ?_
        refine aw_icmp_lt (tgt := 48) dX10_reasonOf_41 (by decide) (fun hc => ?_) (fun hc => ?_)
        · have k := k.1 hc
          refine aw_aload_n 1 dX10_reasonOf_48 rfl rfl ?_
          refine aw_getR dX10_reasonOf_49 fl_X10_19 rfl o7 (x := (h v0 3)) rfl ?_
          refine aw_iload_n 2 dX10_reasonOf_52 rfl rfl ?_
          obtain ⟨o11, k⟩ := k
          obtain ⟨o12, k⟩ := k
          refine aw_iald dX10_reasonOf_53 o11 o9 o12 (x := (h (h v0 3) v1)) rfl ?_
          refine aw_iload 0 dX10_reasonOf_54 rfl ?_
          refine aw_iand dX10_reasonOf_56 ?_
          refine aw_if_ne (tgt := 64) dX10_reasonOf_57 (by decide) (fun hc => ?_) (fun hc => ?_)
          · have k := k.1 hc
            refine aw_iconst dX10_reasonOf_64 ⟨by decide, by decide⟩ ?_
            exact aw_iret dX10_reasonOf_65 rfl k
          · have k := k.2 hc
            refine aw_iconst dX10_reasonOf_60 ⟨by decide, by decide⟩ ?_
            refine aw_goto (tgt := 65) dX10_reasonOf_61 (by decide) ?_
            exact aw_iret dX10_reasonOf_65 rfl k
        · have k := k.2 hc
          refine aw_iconst dX10_reasonOf_44 ⟨by decide, by decide⟩ ?_
          refine aw_goto (tgt := 65) dX10_reasonOf_45 (by decide) ?_
          exact aw_iret dX10_reasonOf_65 rfl k
      · have k := k.2 hc
        refine aw_iconst dX10_reasonOf_30 ⟨by decide, by decide⟩ ?_
        refine aw_goto (tgt := 65) dX10_reasonOf_31 (by decide) ?_
        exact aw_iret dX10_reasonOf_65 rfl k
  · have k := k.2 hc
    refine aw_iconst dX10_reasonOf_5 ⟨by decide, by decide⟩ ?_
    refine aw_goto (tgt := 19) dX10_reasonOf_6 (by decide) ?_
    refine aw_istore dX10_reasonOf_19 (by decide) ?_
    refine aw_aload_n 1 dX10_reasonOf_21 rfl rfl ?_
    obtain ⟨o13, k⟩ := k
    refine aw_getR dX10_reasonOf_22 fl_X10_16 rfl o13 (x := (h v0 2)) rfl ?_
    refine aw_iload_n 2 dX10_reasonOf_25 rfl rfl ?_
    obtain ⟨o14, k⟩ := k
    obtain ⟨o15, k⟩ := k
    obtain ⟨o16, k⟩ := k
    refine aw_iald dX10_reasonOf_26 o14 o15 o16 (x := (h (h v0 2) v1)) rfl ?_
    refine aw_if_ne (tgt := 34) dX10_reasonOf_27 (by decide) (fun hc => ?_) (fun hc => ?_)
    · have k := k.1 hc
      refine aw_iload_n 3 dX10_reasonOf_34 rfl rfl ?_
      refine aw_aload_n 1 dX10_reasonOf_35 rfl rfl ?_
      refine aw_getR dX10_reasonOf_36 fl_X10_16 rfl o13 (x := (h v0 2)) rfl ?_
      refine aw_iload_n 2 dX10_reasonOf_39 rfl rfl ?_
      refine aw_iald dX10_reasonOf_40 o14 o15 o16 (x := (h (h v0 2) v1)) rfl ?_
      refine aw_icmp_lt (tgt := 48) dX10_reasonOf_41 (by decide) (fun hc => ?_) (fun hc => ?_)
      · have k := k.1 hc
        refine aw_aload_n 1 dX10_reasonOf_48 rfl rfl ?_
        refine aw_getR dX10_reasonOf_49 fl_X10_19 rfl o13 (x := (h v0 3)) rfl ?_
        refine aw_iload_n 2 dX10_reasonOf_52 rfl rfl ?_
        obtain ⟨o17, k⟩ := k
        obtain ⟨o18, k⟩ := k
        refine aw_iald dX10_reasonOf_53 o17 o15 o18 (x := (h (h v0 3) v1)) rfl ?_
        refine aw_iload 0 dX10_reasonOf_54 rfl ?_
        refine aw_iand dX10_reasonOf_56 ?_
        refine aw_if_ne (tgt := 64) dX10_reasonOf_57 (by decide) (fun hc => ?_) (fun hc => ?_)
        · have k := k.1 hc
          refine aw_iconst dX10_reasonOf_64 ⟨by decide, by decide⟩ ?_
          exact aw_iret dX10_reasonOf_65 rfl k
        · have k := k.2 hc
          refine aw_iconst dX10_reasonOf_60 ⟨by decide, by decide⟩ ?_
          refine aw_goto (tgt := 65) dX10_reasonOf_61 (by decide) ?_
          exact aw_iret dX10_reasonOf_65 rfl k
      · have k := k.2 hc
        refine aw_iconst dX10_reasonOf_44 ⟨by decide, by decide⟩ ?_
        refine aw_goto (tgt := 65) dX10_reasonOf_45 (by decide) ?_
        exact aw_iret dX10_reasonOf_65 rfl k
    · have k := k.2 hc
      refine aw_iconst dX10_reasonOf_30 ⟨by decide, by decide⟩ ?_
      refine aw_goto (tgt := 65) dX10_reasonOf_31 (by decide) ?_
      exact aw_iret dX10_reasonOf_65 rfl k
theorem rn_X10_reasonOf {G : GG} {Q : Option VV → Hp → Prop} {v0 v1 v2 v3 : Int} {h : Hp} (k : ((¬ v3 = 1) → ((¬ v3 = 2) → (h v0 (-1) = 11) ∧ (h (h v0 2) (-1) = 20) ∧ (0 ≤ v1) ∧ (v1 < h (h v0 2) (-2)) ∧ ((¬ (h (h v0 2) v1) = 0) → ((v2 < (h (h v0 2) v1)) → (h (h v0 3) (-1) = 20) ∧ (v1 < h (h v0 3) (-2)) ∧ ((¬ (iAnd (h (h v0 3) v1) 4) = 0) → Q (some (vI 0)) h) ∧ (((iAnd (h (h v0 3) v1) 4) = 0) → Q (some (vI 3)) h)) ∧ ((¬ (v2 < (h (h v0 2) v1))) → Q (some (vI 2)) h)) ∧ (((h (h v0 2) v1) = 0) → Q (some (vI 1)) h)) ∧ ((v3 = 2) → (h v0 (-1) = 11) ∧ (h (h v0 2) (-1) = 20) ∧ (0 ≤ v1) ∧ (v1 < h (h v0 2) (-2)) ∧ ((¬ (h (h v0 2) v1) = 0) → ((v2 < (h (h v0 2) v1)) → (h (h v0 3) (-1) = 20) ∧ (v1 < h (h v0 3) (-2)) ∧ ((¬ (iAnd (h (h v0 3) v1) 1) = 0) → Q (some (vI 0)) h) ∧ (((iAnd (h (h v0 3) v1) 1) = 0) → Q (some (vI 3)) h)) ∧ ((¬ (v2 < (h (h v0 2) v1))) → Q (some (vI 2)) h)) ∧ (((h (h v0 2) v1) = 0) → Q (some (vI 1)) h))) ∧ ((v3 = 1) → (h v0 (-1) = 11) ∧ (h (h v0 2) (-1) = 20) ∧ (0 ≤ v1) ∧ (v1 < h (h v0 2) (-2)) ∧ ((¬ (h (h v0 2) v1) = 0) → ((v2 < (h (h v0 2) v1)) → (h (h v0 3) (-1) = 20) ∧ (v1 < h (h v0 3) (-2)) ∧ ((¬ (iAnd (h (h v0 3) v1) 2) = 0) → Q (some (vI 0)) h) ∧ (((iAnd (h (h v0 3) v1) 2) = 0) → Q (some (vI 3)) h)) ∧ ((¬ (v2 < (h (h v0 2) v1))) → Q (some (vI 2)) h)) ∧ (((h (h v0 2) v1) = 0) → Q (some (vI 1)) h))) : Runs G mm_X10_reasonOf [vR v0, vI v1, vI v2, vI v3] h Q := Runs.of (by decide +kernel) (Nat.le_of_ble_eq_true rfl) (sg_X10_reasonOf_0 (b := (0, 0)) k)
set_option maxRecDepth 20000 in
theorem sg_X10_receive_0 {G : GG} {b : Nat × Nat} {Q : Option VV → Hp → Prop} {v0 v1 v2 : Int} {h : Hp} (k : ((¬ (0 ≤ v1 ∧ v1 ≤ 3)) → Q (some (vI (-1001))) h) ∧ ((0 ≤ v1 ∧ v1 ≤ 3) → ((0 ≤ v2 ∧ v2 ≤ 11) → (h v0 (-1) = 11) ∧ (h (h v0 4) (-1) = 20) ∧ (0 ≤ v1) ∧ (v1 < h (h v0 4) (-2)) ∧ (((h (h v0 4) v1) = 1) → (h (h v0 9) (-1) = 20) ∧ (v1 < h (h v0 9) (-2)) ∧ ((¬ (h (h v0 9) v1) = 3) → (inI (3 * v1)) ∧ (inI ((3 * v1) + (h (h v0 9) v1))) ∧ (h (h v0 10) (-1) = 20) ∧ (0 ≤ ((3 * v1) + (h (h v0 9) v1))) ∧ (((3 * v1) + (h (h v0 9) v1)) < h (h v0 10) (-2)) ∧ ∀ h1, h1 = wr h (h v0 10) ((3 * v1) + (h (h v0 9) v1)) v2 → (inI ((h1 (h v0 9) v1) + 1)) ∧ ∀ h2, h2 = wr h1 (h v0 9) v1 ((h1 (h v0 9) v1) + 1) → Q (some (vI ((h1 (h v0 9) v1) + 1))) h2) ∧ (((h (h v0 9) v1) = 3) → Q (some (vI (-1004))) h)) ∧ ((¬ ((h (h v0 4) v1) = 1)) → Q (some (vI (-1003))) h)) ∧ ((¬ (0 ≤ v2 ∧ v2 ≤ 11)) → Q (some (vI (-1001))) h))) : AW G mm_X10_receive b 0 [(0, vR v0), (1, vI v1), (2, vI v2)] [] h Q := by
  refine aw_iload_n 1 dX10_receive_0 rfl rfl ?_
  refine aw_callS (M' := mm_X10_isEnd) [vI v1] [] lk_X10_220 dX10_receive_1 rfl (Nat.le_of_ble_eq_true rfl) ⟨by decide, by decide, Nat.zero_le _, Nat.zero_le _⟩ ?_
  refine pu_X10_isEnd ?_
  refine aw_if_eq (tgt := 14) dX10_receive_4 (by decide) (fun hc => ?_) (fun hc => ?_)
  · have k := k.1 (b2i_0.mp hc)
    refine aw_sipush dX10_receive_14 ⟨by decide, by decide⟩ (by decide) ?_
    exact aw_iret dX10_receive_17 rfl k
  · have k := k.2 (b2i_n.mp hc)
    refine aw_iload_n 2 dX10_receive_7 rfl rfl ?_
    refine aw_callS (M' := mm_X10_isCell) [vI v2] [] lk_X10_197 dX10_receive_8 rfl (Nat.le_of_ble_eq_true rfl) ⟨by decide, by decide, Nat.zero_le _, Nat.zero_le _⟩ ?_
    refine pu_X10_isCell ?_
    refine aw_if_ne (tgt := 18) dX10_receive_11 (by decide) (fun hc => ?_) (fun hc => ?_)
    · have k := k.1 (b2i_n.mp hc)
      refine aw_aload_n 0 dX10_receive_18 rfl rfl ?_
      obtain ⟨o1, k⟩ := k
      refine aw_getR dX10_receive_19 fl_X10_22 rfl o1 (x := (h v0 4)) rfl ?_
      refine aw_iload_n 1 dX10_receive_22 rfl rfl ?_
      obtain ⟨o2, k⟩ := k
      obtain ⟨o3, k⟩ := k
      obtain ⟨o4, k⟩ := k
      refine aw_iald dX10_receive_23 o2 o3 o4 (x := (h (h v0 4) v1)) rfl ?_
      refine aw_iconst dX10_receive_24 ⟨by decide, by decide⟩ ?_
      refine aw_icmp_eq (tgt := 32) dX10_receive_25 (by decide) (fun hc => ?_) (fun hc => ?_)
      · have k := k.1 hc
        refine aw_aload_n 0 dX10_receive_32 rfl rfl ?_
        refine aw_getR dX10_receive_33 fl_X10_37 rfl o1 (x := (h v0 9)) rfl ?_
        refine aw_iload_n 1 dX10_receive_36 rfl rfl ?_
        obtain ⟨o5, k⟩ := k
        obtain ⟨o6, k⟩ := k
        refine aw_iald dX10_receive_37 o5 o3 o6 (x := (h (h v0 9) v1)) rfl ?_
        refine aw_iconst dX10_receive_38 ⟨by decide, by decide⟩ ?_
        refine aw_icmp_ne (tgt := 46) dX10_receive_39 (by decide) (fun hc => ?_) (fun hc => ?_)
        · have k := k.1 hc
          refine aw_aload_n 0 dX10_receive_46 rfl rfl ?_
          refine aw_getR dX10_receive_47 fl_X10_40 rfl o1 (x := (h v0 10)) rfl ?_
          refine aw_iconst dX10_receive_50 ⟨by decide, by decide⟩ ?_
          refine aw_iload_n 1 dX10_receive_51 rfl rfl ?_
          obtain ⟨o7, k⟩ := k
          refine aw_imul dX10_receive_52 o7 ?_
          refine aw_aload_n 0 dX10_receive_53 rfl rfl ?_
          refine aw_getR dX10_receive_54 fl_X10_37 rfl o1 (x := (h v0 9)) rfl ?_
          refine aw_iload_n 1 dX10_receive_57 rfl rfl ?_
          refine aw_iald dX10_receive_58 o5 o3 o6 (x := (h (h v0 9) v1)) rfl ?_
          obtain ⟨o8, k⟩ := k
          refine aw_iadd dX10_receive_59 o8 ?_
          refine aw_iload_n 2 dX10_receive_60 rfl rfl ?_
          obtain ⟨o9, k⟩ := k
          obtain ⟨o10, k⟩ := k
          obtain ⟨o11, k⟩ := k
          refine aw_iast dX10_receive_61 o9 o10 o11 ?_
          refine aw_hp (fun h1 e12 => ?_)
          have k := k h1 e12
          refine aw_aload_n 0 dX10_receive_62 rfl rfl ?_
          have q13 := sh_w e12 o10 o1
          refine aw_getR dX10_receive_63 fl_X10_37 rfl q13 (x := (h v0 9)) (rd_a e12 v0 9 (ne_sh o9 o1 (by decide))) ?_
          refine aw_iload_n 1 dX10_receive_66 rfl rfl ?_
          refine aw_dup2 dX10_receive_67 rfl rfl ?_
          have q14 := sh_w e12 o10 o5
          refine aw_iald dX10_receive_68 q14 o3 (lt_l (ln_w e12 (h v0 9) o10) o6) (x := (h1 (h v0 9) v1)) rfl ?_
          refine aw_iconst dX10_receive_69 ⟨by decide, by decide⟩ ?_
          obtain ⟨o15, k⟩ := k
          refine aw_iadd dX10_receive_70 o15 ?_
          refine aw_iast dX10_receive_71 q14 o3 (lt_l (ln_w e12 (h v0 9) o10) o6) ?_
          refine aw_hp (fun h2 e16 => ?_)
          have k := k h2 e16
          refine aw_aload_n 0 dX10_receive_72 rfl rfl ?_
          have q17 := sh_w e16 o3 q13
          refine aw_getR dX10_receive_73 fl_X10_37 rfl q17 (x := (h v0 9)) ((rd_a e16 v0 9 (ne_sh q14 q13 (by decide))).trans (rd_a e12 v0 9 (ne_sh o9 o1 (by decide)))) ?_
          refine aw_iload_n 1 dX10_receive_76 rfl rfl ?_
          have q18 := sh_w e16 o3 q14
          refine aw_iald dX10_receive_77 q18 o3 (lt_l ((ln_w e16 (h v0 9) o3).trans (ln_w e12 (h v0 9) o10)) o6) (x := ((h1 (h v0 9) v1) + 1)) (rd_e e16) ?_
          exact aw_iret dX10_receive_78 rfl k
        · have k := k.2 hc
          refine aw_sipush dX10_receive_42 ⟨by decide, by decide⟩ (by decide) ?_
          exact aw_iret dX10_receive_45 rfl k
      · have k := k.2 hc
        refine aw_sipush dX10_receive_28 ⟨by decide, by decide⟩ (by decide) ?_
        exact aw_iret dX10_receive_31 rfl k
    · have k := k.2 (b2i_0.mp hc)
      refine aw_sipush dX10_receive_14 ⟨by decide, by decide⟩ (by decide) ?_
      exact aw_iret dX10_receive_17 rfl k
theorem rn_X10_receive {G : GG} {Q : Option VV → Hp → Prop} {v0 v1 v2 : Int} {h : Hp} (k : ((¬ (0 ≤ v1 ∧ v1 ≤ 3)) → Q (some (vI (-1001))) h) ∧ ((0 ≤ v1 ∧ v1 ≤ 3) → ((0 ≤ v2 ∧ v2 ≤ 11) → (h v0 (-1) = 11) ∧ (h (h v0 4) (-1) = 20) ∧ (0 ≤ v1) ∧ (v1 < h (h v0 4) (-2)) ∧ (((h (h v0 4) v1) = 1) → (h (h v0 9) (-1) = 20) ∧ (v1 < h (h v0 9) (-2)) ∧ ((¬ (h (h v0 9) v1) = 3) → (inI (3 * v1)) ∧ (inI ((3 * v1) + (h (h v0 9) v1))) ∧ (h (h v0 10) (-1) = 20) ∧ (0 ≤ ((3 * v1) + (h (h v0 9) v1))) ∧ (((3 * v1) + (h (h v0 9) v1)) < h (h v0 10) (-2)) ∧ ∀ h1, h1 = wr h (h v0 10) ((3 * v1) + (h (h v0 9) v1)) v2 → (inI ((h1 (h v0 9) v1) + 1)) ∧ ∀ h2, h2 = wr h1 (h v0 9) v1 ((h1 (h v0 9) v1) + 1) → Q (some (vI ((h1 (h v0 9) v1) + 1))) h2) ∧ (((h (h v0 9) v1) = 3) → Q (some (vI (-1004))) h)) ∧ ((¬ ((h (h v0 4) v1) = 1)) → Q (some (vI (-1003))) h)) ∧ ((¬ (0 ≤ v2 ∧ v2 ≤ 11)) → Q (some (vI (-1001))) h))) : Runs G mm_X10_receive [vR v0, vI v1, vI v2] h Q := Runs.of (by decide +kernel) (Nat.le_of_ble_eq_true rfl) (sg_X10_receive_0 (b := (0, 0)) k)
set_option maxRecDepth 20000 in
theorem sg_X10_receives_0 {G : GG} {b : Nat × Nat} {Q : Option VV → Hp → Prop} {v0 v1 v2 : Int} {h : Hp} (k : (h v0 (-1) = 11) ∧ (h (h v0 9) (-1) = 20) ∧ (0 ≤ v1) ∧ (v1 < h (h v0 9) (-2)) ∧ ((¬ (h (h v0 9) v1) = 0) → (h (h v0 38) (-1) = 20) ∧ (6 < h (h v0 38) (-2)) ∧ (inI (12 * (v1 % 2))) ∧ (inI (3 * v1)) ∧ (h (h v0 10) (-1) = 20) ∧ (0 ≤ (3 * v1)) ∧ ((3 * v1) < h (h v0 10) (-2)) ∧ (inI ((12 * (v1 % 2)) + (h (h v0 10) (3 * v1)))) ∧ (h (h v0 0) (-1) = 20) ∧ (0 ≤ ((12 * (v1 % 2)) + (h (h v0 10) (3 * v1)))) ∧ (((12 * (v1 % 2)) + (h (h v0 10) (3 * v1))) < h (h v0 0) (-2)) ∧ ∀ h1, h1 = wr h (h v0 0) ((12 * (v1 % 2)) + (h (h v0 10) (3 * v1))) (h (h v0 38) 6) → (inI ((h1 (h v0 9) v1) - 1)) ∧ ∀ h2, h2 = wr h1 (h v0 9) v1 ((h1 (h v0 9) v1) - 1) → AW G mm_X10_receives b 61 [(0, vR v0), (1, vI v1), (2, vI v2), (3, vI (h (h v0 38) 6)), (4, vI 0)] [] h2 Q) ∧ (((h (h v0 9) v1) = 0) → Runs G mm_X10_sends [vR v0, vI v1, vI 3, vI v2, vI 0, vI (-1)] h (fun r h' => AW G mm_X10_receives b 18 [] (r.toList ++ []) h' Q))) : AW G mm_X10_receives b 0 [(0, vR v0), (1, vI v1), (2, vI v2)] [] h Q := by
  refine aw_aload_n 0 dX10_receives_0 rfl rfl ?_
  obtain ⟨o1, k⟩ := k
  refine aw_getR dX10_receives_1 fl_X10_37 rfl o1 (x := (h v0 9)) rfl ?_
  refine aw_iload_n 1 dX10_receives_4 rfl rfl ?_
  obtain ⟨o2, k⟩ := k
  obtain ⟨o3, k⟩ := k
  obtain ⟨o4, k⟩ := k
  refine aw_iald dX10_receives_5 o2 o3 o4 (x := (h (h v0 9) v1)) rfl ?_
  refine aw_if_ne (tgt := 19) dX10_receives_6 (by decide) (fun hc => ?_) (fun hc => ?_)
  · have k := k.1 hc
    refine aw_aload_n 0 dX10_receives_19 rfl rfl ?_
    refine aw_getR dX10_receives_20 fl_X10_92 rfl o1 (x := (h v0 38)) rfl ?_
    refine aw_bipush dX10_receives_23 ⟨by decide, by decide⟩ (by decide) ?_
    obtain ⟨o5, k⟩ := k
    obtain ⟨o6, k⟩ := k
    refine aw_iald dX10_receives_25 o5 (by decide) o6 (x := (h (h v0 38) 6)) rfl ?_
    refine aw_istore_n dX10_receives_26 rfl (by decide) ?_
    refine aw_aload_n 1 dX10_receives_27 rfl rfl ?_
    refine aw_getR dX10_receives_28 fl_X10_7 rfl o1 (x := (h v0 0)) rfl ?_
    refine aw_bipush dX10_receives_31 ⟨by decide, by decide⟩ (by decide) ?_
    refine aw_iload_n 2 dX10_receives_33 rfl rfl ?_
    refine aw_iconst dX10_receives_34 ⟨by decide, by decide⟩ ?_
    refine aw_irem dX10_receives_35 o3 (by decide) ?_
    obtain ⟨o7, k⟩ := k
    refine aw_imul dX10_receives_36 o7 ?_
    refine aw_aload_n 1 dX10_receives_37 rfl rfl ?_
    refine aw_getR dX10_receives_38 fl_X10_40 rfl o1 (x := (h v0 10)) rfl ?_
    refine aw_iconst dX10_receives_41 ⟨by decide, by decide⟩ ?_
    refine aw_iload_n 2 dX10_receives_42 rfl rfl ?_
    obtain ⟨o8, k⟩ := k
    refine aw_imul dX10_receives_43 o8 ?_
    obtain ⟨o9, k⟩ := k
    obtain ⟨o10, k⟩ := k
    obtain ⟨o11, k⟩ := k
    refine aw_iald dX10_receives_44 o9 o10 o11 (x := (h (h v0 10) (3 * v1))) rfl ?_
    obtain ⟨o12, k⟩ := k
    refine aw_iadd dX10_receives_45 o12 ?_
    refine aw_iload_n 0 dX10_receives_46 rfl rfl ?_
    obtain ⟨o13, k⟩ := k
    obtain ⟨o14, k⟩ := k
    obtain ⟨o15, k⟩ := k
    refine aw_iast dX10_receives_47 o13 o14 o15 ?_
    refine aw_hp (fun h1 e16 => ?_)
    have k := k h1 e16
    refine aw_aload_n 1 dX10_receives_48 rfl rfl ?_
    have q17 := sh_w e16 o14 o1
    refine aw_getR dX10_receives_49 fl_X10_37 rfl q17 (x := (h v0 9)) (rd_a e16 v0 9 (ne_sh o13 o1 (by decide))) ?_
    refine aw_iload_n 2 dX10_receives_52 rfl rfl ?_
    refine aw_dup2 dX10_receives_53 rfl rfl ?_
    have q18 := sh_w e16 o14 o2
    refine aw_iald dX10_receives_54 q18 o3 (lt_l (ln_w e16 (h v0 9) o14) o4) (x := (h1 (h v0 9) v1)) rfl ?_
    refine aw_iconst dX10_receives_55 ⟨by decide, by decide⟩ ?_
    obtain ⟨o19, k⟩ := k
    refine aw_isub dX10_receives_56 o19 ?_
    refine aw_iast dX10_receives_57 q18 o3 (lt_l (ln_w e16 (h v0 9) o14) o4) ?_
    refine aw_hp (fun h2 e20 => ?_)
    have k := k h2 e20
    refine aw_iconst dX10_receives_58 ⟨by decide, by decide⟩ ?_
    refine aw_istore dX10_receives_59 (by decide) ?_
    exact aw_sub [2, 3, 4, 1, 0] rfl k
  · have k := k.2 hc
    refine aw_aload_n 0 dX10_receives_9 rfl rfl ?_
    refine aw_iload_n 1 dX10_receives_10 rfl rfl ?_
    refine aw_iconst dX10_receives_11 ⟨by decide, by decide⟩ ?_
    refine aw_iload_n 2 dX10_receives_12 rfl rfl ?_
    refine aw_iconst dX10_receives_13 ⟨by decide, by decide⟩ ?_
    refine aw_iconst dX10_receives_14 ⟨by decide, by decide⟩ ?_
    refine aw_callV (M' := mm_X10_sends) 10 [vI v1, vI 3, vI v2, vI 0, vI (-1)] [] lk_X10_248 ⟨_, rfl, rfl⟩ dX10_receives_15 rfl (Nat.le_of_ble_eq_true rfl) ⟨by decide, by decide, Nat.zero_le _, Nat.zero_le _⟩ o1 ?_
    exact k.mono (fun _ _ z => aw_sub [] rfl z)
theorem rn_X10_receives {G : GG} {Q : Option VV → Hp → Prop} {v0 v1 v2 : Int} {h : Hp} (k : (h v0 (-1) = 11) ∧ (h (h v0 9) (-1) = 20) ∧ (0 ≤ v1) ∧ (v1 < h (h v0 9) (-2)) ∧ ((¬ (h (h v0 9) v1) = 0) → (h (h v0 38) (-1) = 20) ∧ (6 < h (h v0 38) (-2)) ∧ (inI (12 * (v1 % 2))) ∧ (inI (3 * v1)) ∧ (h (h v0 10) (-1) = 20) ∧ (0 ≤ (3 * v1)) ∧ ((3 * v1) < h (h v0 10) (-2)) ∧ (inI ((12 * (v1 % 2)) + (h (h v0 10) (3 * v1)))) ∧ (h (h v0 0) (-1) = 20) ∧ (0 ≤ ((12 * (v1 % 2)) + (h (h v0 10) (3 * v1)))) ∧ (((12 * (v1 % 2)) + (h (h v0 10) (3 * v1))) < h (h v0 0) (-2)) ∧ ∀ h1, h1 = wr h (h v0 0) ((12 * (v1 % 2)) + (h (h v0 10) (3 * v1))) (h (h v0 38) 6) → (inI ((h1 (h v0 9) v1) - 1)) ∧ ∀ h2, h2 = wr h1 (h v0 9) v1 ((h1 (h v0 9) v1) - 1) → AW G mm_X10_receives (0, 0) 61 [(0, vR v0), (1, vI v1), (2, vI v2), (3, vI (h (h v0 38) 6)), (4, vI 0)] [] h2 Q) ∧ (((h (h v0 9) v1) = 0) → Runs G mm_X10_sends [vR v0, vI v1, vI 3, vI v2, vI 0, vI (-1)] h (fun r h' => AW G mm_X10_receives (0, 0) 18 [] (r.toList ++ []) h' Q))) : Runs G mm_X10_receives [vR v0, vI v1, vI v2] h Q := Runs.of (by decide +kernel) (Nat.le_of_ble_eq_true rfl) (sg_X10_receives_0 (b := (0, 0)) k)
set_option maxRecDepth 20000 in
theorem sg_X10_receives_61 {G : GG} {b : Nat × Nat} {Q : Option VV → Hp → Prop} {v0 v1 v2 v3 v4 : Int} {h : Hp} (k : (h v0 (-1) = 11) ∧ (h (h v0 9) (-1) = 20) ∧ (0 ≤ v1) ∧ (v1 < h (h v0 9) (-2)) ∧ (((h (h v0 9) v1) ≤ v4) → Runs G mm_X10_tells [vR v0, vI v1, vI 5, vI v2, vI 0, vI v3] h (fun r h' => AW G mm_X10_receives b 111 [(0, vR v0), (1, vI v1), (2, vI v2)] (r.toList ++ []) h' Q)) ∧ ((¬ ((h (h v0 9) v1) ≤ v4)) → (inI (3 * v1)) ∧ (inI ((3 * v1) + v4)) ∧ (inI (((3 * v1) + v4) + 1)) ∧ (h (h v0 10) (-1) = 20) ∧ (0 ≤ (((3 * v1) + v4) + 1)) ∧ ((((3 * v1) + v4) + 1) < h (h v0 10) (-2)) ∧ (0 ≤ ((3 * v1) + v4)) ∧ (((3 * v1) + v4) < h (h v0 10) (-2)) ∧ ∀ h1, h1 = wr h (h v0 10) ((3 * v1) + v4) (h (h v0 10) (((3 * v1) + v4) + 1)) → (inI (v4 + 1)) ∧ AW G mm_X10_receives b 61 [(0, vR v0), (1, vI v1), (2, vI v2), (3, vI v3), (4, vI (v4 + 1))] [] h1 Q)) : AW G mm_X10_receives b 61 [(0, vR v0), (1, vI v1), (2, vI v2), (3, vI v3), (4, vI v4)] [] h Q := by
  refine aw_iload 4 dX10_receives_61 rfl ?_
  refine aw_aload_n 0 dX10_receives_63 rfl rfl ?_
  obtain ⟨o1, k⟩ := k
  refine aw_getR dX10_receives_64 fl_X10_37 rfl o1 (x := (h v0 9)) rfl ?_
  refine aw_iload_n 1 dX10_receives_67 rfl rfl ?_
  obtain ⟨o2, k⟩ := k
  obtain ⟨o3, k⟩ := k
  obtain ⟨o4, k⟩ := k
  refine aw_iald dX10_receives_68 o2 o3 o4 (x := (h (h v0 9) v1)) rfl ?_
  refine aw_icmp_ge (tgt := 102) dX10_receives_69 (by decide) (fun hc => ?_) (fun hc => ?_)
  · have k := k.1 hc
    refine aw_aload_n 0 dX10_receives_102 rfl rfl ?_
    refine aw_iload_n 1 dX10_receives_103 rfl rfl ?_
    refine aw_iconst dX10_receives_104 ⟨by decide, by decide⟩ ?_
    refine aw_iload_n 2 dX10_receives_105 rfl rfl ?_
    refine aw_iconst dX10_receives_106 ⟨by decide, by decide⟩ ?_
    refine aw_iload_n 3 dX10_receives_107 rfl rfl ?_
    refine aw_callV (M' := mm_X10_tells) 10 [vI v1, vI 5, vI v2, vI 0, vI v3] [] lk_X10_241 ⟨_, rfl, rfl⟩ dX10_receives_108 rfl (Nat.le_of_ble_eq_true rfl) ⟨by decide, by decide, Nat.zero_le _, Nat.zero_le _⟩ o1 ?_
    exact k.mono (fun _ _ z => aw_sub [0, 1, 2] rfl z)
  · have k := k.2 hc
    refine aw_aload_n 0 dX10_receives_72 rfl rfl ?_
    refine aw_getR dX10_receives_73 fl_X10_40 rfl o1 (x := (h v0 10)) rfl ?_
    refine aw_iconst dX10_receives_76 ⟨by decide, by decide⟩ ?_
    refine aw_iload_n 1 dX10_receives_77 rfl rfl ?_
    obtain ⟨o5, k⟩ := k
    refine aw_imul dX10_receives_78 o5 ?_
    refine aw_iload 4 dX10_receives_79 rfl ?_
    obtain ⟨o6, k⟩ := k
    refine aw_iadd dX10_receives_81 o6 ?_
    refine aw_aload_n 0 dX10_receives_82 rfl rfl ?_
    refine aw_getR dX10_receives_83 fl_X10_40 rfl o1 (x := (h v0 10)) rfl ?_
    refine aw_iconst dX10_receives_86 ⟨by decide, by decide⟩ ?_
    refine aw_iload_n 1 dX10_receives_87 rfl rfl ?_
    refine aw_imul dX10_receives_88 o5 ?_
    refine aw_iload 4 dX10_receives_89 rfl ?_
    refine aw_iadd dX10_receives_91 o6 ?_
    refine aw_iconst dX10_receives_92 ⟨by decide, by decide⟩ ?_
    obtain ⟨o7, k⟩ := k
    refine aw_iadd dX10_receives_93 o7 ?_
    obtain ⟨o8, k⟩ := k
    obtain ⟨o9, k⟩ := k
    obtain ⟨o10, k⟩ := k
    refine aw_iald dX10_receives_94 o8 o9 o10 (x := (h (h v0 10) (((3 * v1) + v4) + 1))) rfl ?_
    obtain ⟨o11, k⟩ := k
    obtain ⟨o12, k⟩ := k
    refine aw_iast dX10_receives_95 o8 o11 o12 ?_
    refine aw_hp (fun h1 e13 => ?_)
    have k := k h1 e13
    obtain ⟨o14, k⟩ := k
    refine aw_iinc 4 dX10_receives_96 rfl o14 (by decide) ?_
    refine aw_goto (tgt := 61) dX10_receives_99 (by decide) ?_
    exact aw_sub [1, 2, 3, 4, 0] rfl k
set_option maxRecDepth 20000 in
theorem sg_X10_receives_18 {G : GG} {b : Nat × Nat} {Q : Option VV → Hp → Prop} {h : Hp} (k : Q none h) : AW G mm_X10_receives b 18 [] [] h Q := by
  exact aw_vret dX10_receives_18 rfl k
set_option maxRecDepth 20000 in
theorem sg_X10_receives_111 {G : GG} {b : Nat × Nat} {Q : Option VV → Hp → Prop} {v0 v1 v2 : Int} {h : Hp} (k : (h v0 (-1) = 11) ∧ Runs G mm_X10_passes [vR v0, vI v1, vI v2, vI 0] h (fun r h' => AW G mm_X10_receives b 118 [] (r.toList ++ []) h' Q)) : AW G mm_X10_receives b 111 [(0, vR v0), (1, vI v1), (2, vI v2)] [] h Q := by
  refine aw_aload_n 0 dX10_receives_111 rfl rfl ?_
  refine aw_iload_n 1 dX10_receives_112 rfl rfl ?_
  refine aw_iload_n 2 dX10_receives_113 rfl rfl ?_
  refine aw_iconst dX10_receives_114 ⟨by decide, by decide⟩ ?_
  obtain ⟨o1, k⟩ := k
  refine aw_callV (M' := mm_X10_passes) 10 [vI v1, vI v2, vI 0] [] lk_X10_262 ⟨_, rfl, rfl⟩ dX10_receives_115 rfl (Nat.le_of_ble_eq_true rfl) ⟨by decide, by decide, Nat.zero_le _, Nat.zero_le _⟩ o1 ?_
  exact k.mono (fun _ _ z => aw_sub [] rfl z)
set_option maxRecDepth 20000 in
theorem sg_X10_receives_118 {G : GG} {b : Nat × Nat} {Q : Option VV → Hp → Prop} {h : Hp} (k : Q none h) : AW G mm_X10_receives b 118 [] [] h Q := by
  exact aw_vret dX10_receives_118 rfl k
set_option maxRecDepth 20000 in
theorem sg_X10_requested_0 {G : GG} {b : Nat × Nat} {Q : Option VV → Hp → Prop} {v0 v1 v2 v3 : Int} {h : Hp} (k : (h v0 (-1) = 11) ∧ (h (h v0 8) (-1) = 20) ∧ (0 ≤ v1) ∧ (v1 < h (h v0 8) (-2)) ∧ ((v2 ≤ (h (h v0 8) v1)) → ((v3 = 2) → Runs G mm_X10_accesses [vR v0, vI v1, vI v2, vI v3] h (fun r h' => AW G mm_X10_requested b 69 [] (r.toList ++ []) h' Q)) ∧ ((¬ (v3 = 2)) → ((¬ v2 = (h (h v0 8) v1)) → ((¬ v2 = (h (h v0 8) v1)) → ((2 ≤ v3) → Runs G mm_X10_tellsAgain [vR v0, vI v1, vI v2] h (fun r h' => AW G mm_X10_requested b 114 [] (r.toList ++ []) h' Q)) ∧ ((¬ (2 ≤ v3)) → Runs G mm_X10_sends [vR v0, vI v1, vI 1, vI v2, vI 0, vI (-1)] h (fun r h' => AW G mm_X10_requested b 105 [] (r.toList ++ []) h' Q))) ∧ ((v2 = (h (h v0 8) v1)) → Runs G mm_X10_receives [vR v0, vI v1, vI v2] h (fun r h' => AW G mm_X10_requested b 88 [] (r.toList ++ []) h' Q))) ∧ ((v2 = (h (h v0 8) v1)) → ((v3 = 0) → ((¬ v2 = (h (h v0 8) v1)) → ((2 ≤ v3) → Runs G mm_X10_tellsAgain [vR v0, vI v1, vI v2] h (fun r h' => AW G mm_X10_requested b 114 [] (r.toList ++ []) h' Q)) ∧ ((¬ (2 ≤ v3)) → Runs G mm_X10_sends [vR v0, vI v1, vI 1, vI v2, vI 0, vI (-1)] h (fun r h' => AW G mm_X10_requested b 105 [] (r.toList ++ []) h' Q))) ∧ ((v2 = (h (h v0 8) v1)) → Runs G mm_X10_receives [vR v0, vI v1, vI v2] h (fun r h' => AW G mm_X10_requested b 88 [] (r.toList ++ []) h' Q))) ∧ ((¬ (v3 = 0)) → Runs G mm_X10_accesses [vR v0, vI v1, vI v2, vI v3] h (fun r h' => AW G mm_X10_requested b 69 [] (r.toList ++ []) h' Q))))) ∧ ((¬ (v2 ≤ (h (h v0 8) v1))) → (h (h v0 13) (-1) = 21) ∧ (v1 < h (h v0 13) (-2)) ∧ ((¬ (h (h v0 13) v1) = 0) → Q none h) ∧ (((h (h v0 13) v1) = 0) → Runs G mm_X10_sends [vR v0, vI v1, vI 2, vI (h (h v0 8) v1), vI 0, vI (-1)] h (fun r h' => AW G mm_X10_requested b 33 [(0, vR v0), (1, vI v1)] (r.toList ++ []) h' Q)))) : AW G mm_X10_requested b 0 [(0, vR v0), (1, vI v1), (2, vI v2), (3, vI v3)] [] h Q := by
  refine aw_iload_n 2 dX10_requested_0 rfl rfl ?_
  refine aw_aload_n 0 dX10_requested_1 rfl rfl ?_
  obtain ⟨o1, k⟩ := k
  refine aw_getR dX10_requested_2 fl_X10_34 rfl o1 (x := (h v0 8)) rfl ?_
  refine aw_iload_n 1 dX10_requested_5 rfl rfl ?_
  obtain ⟨o2, k⟩ := k
  obtain ⟨o3, k⟩ := k
  obtain ⟨o4, k⟩ := k
  refine aw_iald dX10_requested_6 o2 o3 o4 (x := (h (h v0 8) v1)) rfl ?_
  refine aw_icmp_le (tgt := 43) dX10_requested_7 (by decide) (fun hc => ?_) (fun hc => ?_)
  · have k := k.1 hc
    refine aw_iload_n 3 dX10_requested_43 rfl rfl ?_
    refine aw_iconst dX10_requested_44 ⟨by decide, by decide⟩ ?_
    refine aw_icmp_eq (tgt := 62) dX10_requested_45 (by decide) (fun hc => ?_) (fun hc => ?_)
    · have k := k.1 hc
      refine aw_aload_n 0 dX10_requested_62 rfl rfl ?_
      refine aw_iload_n 1 dX10_requested_63 rfl rfl ?_
      refine aw_iload_n 2 dX10_requested_64 rfl rfl ?_
      refine aw_iload_n 3 dX10_requested_65 rfl rfl ?_
      refine aw_callV (M' := mm_X10_accesses) 10 [vI v1, vI v2, vI v3] [] lk_X10_254 ⟨_, rfl, rfl⟩ dX10_requested_66 rfl (Nat.le_of_ble_eq_true rfl) ⟨by decide, by decide, Nat.zero_le _, Nat.zero_le _⟩ o1 ?_
      exact k.mono (fun _ _ z => aw_sub [] rfl z)
    · have k := k.2 hc
      refine aw_iload_n 2 dX10_requested_48 rfl rfl ?_
      refine aw_aload_n 0 dX10_requested_49 rfl rfl ?_
      refine aw_getR dX10_requested_50 fl_X10_34 rfl o1 (x := (h v0 8)) rfl ?_
      refine aw_iload_n 1 dX10_requested_53 rfl rfl ?_
      refine aw_iald dX10_requested_54 o2 o3 o4 (x := (h (h v0 8) v1)) rfl ?_
      refine aw_icmp_ne (tgt := 72) dX10_requested_55 (by decide) (fun hc => ?_) (fun hc => ?_)
      · have k := k.1 hc
        refine aw_iload_n 2 dX10_requested_72 rfl rfl ?_
        refine aw_aload_n 0 dX10_requested_73 rfl rfl ?_
        refine aw_getR dX10_requested_74 fl_X10_34 rfl o1 (x := (h v0 8)) rfl ?_
        refine aw_iload_n 1 dX10_requested_77 rfl rfl ?_
        refine aw_iald dX10_requested_78 o2 o3 o4 (x := (h (h v0 8) v1)) rfl ?_
        refine aw_icmp_ne (tgt := 91) dX10_requested_79 (by decide) (fun hc => ?_) (fun hc => ?_)
        · have k := k.1 hc
          refine aw_iload_n 3 dX10_requested_91 rfl rfl ?_
          refine aw_iconst dX10_requested_92 ⟨by decide, by decide⟩ ?_
          refine aw_icmp_ge (tgt := 108) dX10_requested_93 (by decide) (fun hc => ?_) (fun hc => ?_)
          · have k := k.1 hc
            refine aw_aload_n 0 dX10_requested_108 rfl rfl ?_
            refine aw_iload_n 1 dX10_requested_109 rfl rfl ?_
            refine aw_iload_n 2 dX10_requested_110 rfl rfl ?_
            refine aw_callV (M' := mm_X10_tellsAgain) 10 [vI v1, vI v2] [] lk_X10_259 ⟨_, rfl, rfl⟩ dX10_requested_111 rfl (Nat.le_of_ble_eq_true rfl) ⟨by decide, by decide, Nat.zero_le _, Nat.zero_le _⟩ o1 ?_
            exact k.mono (fun _ _ z => aw_sub [] rfl z)
          · have k := k.2 hc
            refine aw_aload_n 0 dX10_requested_96 rfl rfl ?_
            refine aw_iload_n 1 dX10_requested_97 rfl rfl ?_
            refine aw_iconst dX10_requested_98 ⟨by decide, by decide⟩ ?_
            refine aw_iload_n 2 dX10_requested_99 rfl rfl ?_
            refine aw_iconst dX10_requested_100 ⟨by decide, by decide⟩ ?_
            refine aw_iconst dX10_requested_101 ⟨by decide, by decide⟩ ?_
            refine aw_callV (M' := mm_X10_sends) 10 [vI v1, vI 1, vI v2, vI 0, vI (-1)] [] lk_X10_248 ⟨_, rfl, rfl⟩ dX10_requested_102 rfl (Nat.le_of_ble_eq_true rfl) ⟨by decide, by decide, Nat.zero_le _, Nat.zero_le _⟩ o1 ?_
            exact k.mono (fun _ _ z => aw_sub [] rfl z)
        · have k := k.2 hc
          refine aw_aload_n 0 dX10_requested_82 rfl rfl ?_
          refine aw_iload_n 1 dX10_requested_83 rfl rfl ?_
          refine aw_iload_n 2 dX10_requested_84 rfl rfl ?_
          refine aw_callV (M' := mm_X10_receives) 10 [vI v1, vI v2] [] lk_X10_257 ⟨_, rfl, rfl⟩ dX10_requested_85 rfl (Nat.le_of_ble_eq_true rfl) ⟨by decide, by decide, Nat.zero_le _, Nat.zero_le _⟩ o1 ?_
          exact k.mono (fun _ _ z => aw_sub [] rfl z)
      · have k := k.2 hc
        refine aw_iload_n 3 dX10_requested_58 rfl rfl ?_
        refine aw_if_eq (tgt := 72) dX10_requested_59 (by decide) (fun hc => ?_) (fun hc => ?_)
        · have k := k.1 hc
          refine aw_iload_n 2 dX10_requested_72 rfl rfl ?_
          refine aw_aload_n 0 dX10_requested_73 rfl rfl ?_
          refine aw_getR dX10_requested_74 fl_X10_34 rfl o1 (x := (h v0 8)) rfl ?_
          refine aw_iload_n 1 dX10_requested_77 rfl rfl ?_
          refine aw_iald dX10_requested_78 o2 o3 o4 (x := (h (h v0 8) v1)) rfl ?_
          refine aw_icmp_ne (tgt := 91) dX10_requested_79 (by decide) (fun hc => ?_) (fun hc => ?_)
          · have k := k.1 hc
            refine aw_iload_n 3 dX10_requested_91 rfl rfl ?_
            refine aw_iconst dX10_requested_92 ⟨by decide, by decide⟩ ?_
            refine aw_icmp_ge (tgt := 108) dX10_requested_93 (by decide) (fun hc => ?_) (fun hc => ?_)
            · have k := k.1 hc
              refine aw_aload_n 0 dX10_requested_108 rfl rfl ?_
              refine aw_iload_n 1 dX10_requested_109 rfl rfl ?_
              refine aw_iload_n 2 dX10_requested_110 rfl rfl ?_
              refine aw_callV (M' := mm_X10_tellsAgain) 10 [vI v1, vI v2] [] lk_X10_259 ⟨_, rfl, rfl⟩ dX10_requested_111 rfl (Nat.le_of_ble_eq_true rfl) ⟨by decide, by decide, Nat.zero_le _, Nat.zero_le _⟩ o1 ?_
              exact k.mono (fun _ _ z => aw_sub [] rfl z)
            · have k := k.2 hc
              refine aw_aload_n 0 dX10_requested_96 rfl rfl ?_
              refine aw_iload_n 1 dX10_requested_97 rfl rfl ?_
              refine aw_iconst dX10_requested_98 ⟨by decide, by decide⟩ ?_
              refine aw_iload_n 2 dX10_requested_99 rfl rfl ?_
              refine aw_iconst dX10_requested_100 ⟨by decide, by decide⟩ ?_
              refine aw_iconst dX10_requested_101 ⟨by decide, by decide⟩ ?_
              refine aw_callV (M' := mm_X10_sends) 10 [vI v1, vI 1, vI v2, vI 0, vI (-1)] [] lk_X10_248 ⟨_, rfl, rfl⟩ dX10_requested_102 rfl (Nat.le_of_ble_eq_true rfl) ⟨by decide, by decide, Nat.zero_le _, Nat.zero_le _⟩ o1 ?_
              exact k.mono (fun _ _ z => aw_sub [] rfl z)
          · have k := k.2 hc
            refine aw_aload_n 0 dX10_requested_82 rfl rfl ?_
            refine aw_iload_n 1 dX10_requested_83 rfl rfl ?_
            refine aw_iload_n 2 dX10_requested_84 rfl rfl ?_
            refine aw_callV (M' := mm_X10_receives) 10 [vI v1, vI v2] [] lk_X10_257 ⟨_, rfl, rfl⟩ dX10_requested_85 rfl (Nat.le_of_ble_eq_true rfl) ⟨by decide, by decide, Nat.zero_le _, Nat.zero_le _⟩ o1 ?_
            exact k.mono (fun _ _ z => aw_sub [] rfl z)
        · have k := k.2 hc
          refine aw_aload_n 0 dX10_requested_62 rfl rfl ?_
          refine aw_iload_n 1 dX10_requested_63 rfl rfl ?_
          refine aw_iload_n 2 dX10_requested_64 rfl rfl ?_
          refine aw_iload_n 3 dX10_requested_65 rfl rfl ?_
          refine aw_callV (M' := mm_X10_accesses) 10 [vI v1, vI v2, vI v3] [] lk_X10_254 ⟨_, rfl, rfl⟩ dX10_requested_66 rfl (Nat.le_of_ble_eq_true rfl) ⟨by decide, by decide, Nat.zero_le _, Nat.zero_le _⟩ o1 ?_
          exact k.mono (fun _ _ z => aw_sub [] rfl z)
  · have k := k.2 hc
    refine aw_aload_n 0 dX10_requested_10 rfl rfl ?_
    refine aw_getR dX10_requested_11 fl_X10_49 rfl o1 (x := (h v0 13)) rfl ?_
    refine aw_iload_n 1 dX10_requested_14 rfl rfl ?_
    obtain ⟨o5, k⟩ := k
    obtain ⟨o6, k⟩ := k
    refine aw_zald dX10_requested_15 o5 o3 o6 (x := (h (h v0 13) v1)) rfl ?_
    refine aw_if_ne (tgt := 114) dX10_requested_16 (by decide) (fun hc => ?_) (fun hc => ?_)
    · have k := k.1 hc
      exact aw_vret dX10_requested_114 rfl k
    · have k := k.2 hc
      refine aw_aload_n 0 dX10_requested_19 rfl rfl ?_
      refine aw_iload_n 1 dX10_requested_20 rfl rfl ?_
      refine aw_iconst dX10_requested_21 ⟨by decide, by decide⟩ ?_
      refine aw_aload_n 0 dX10_requested_22 rfl rfl ?_
      refine aw_getR dX10_requested_23 fl_X10_34 rfl o1 (x := (h v0 8)) rfl ?_
      refine aw_iload_n 1 dX10_requested_26 rfl rfl ?_
      refine aw_iald dX10_requested_27 o2 o3 o4 (x := (h (h v0 8) v1)) rfl ?_
      refine aw_iconst dX10_requested_28 ⟨by decide, by decide⟩ ?_
      refine aw_iconst dX10_requested_29 ⟨by decide, by decide⟩ ?_
      refine aw_callV (M' := mm_X10_sends) 10 [vI v1, vI 2, vI (h (h v0 8) v1), vI 0, vI (-1)] [] lk_X10_248 ⟨_, rfl, rfl⟩ dX10_requested_30 rfl (Nat.le_of_ble_eq_true rfl) ⟨by decide, by decide, Nat.zero_le _, Nat.zero_le _⟩ o1 ?_
      exact k.mono (fun _ _ z => aw_sub [0, 1] rfl z)
theorem rn_X10_requested {G : GG} {Q : Option VV → Hp → Prop} {v0 v1 v2 v3 : Int} {h : Hp} (k : (h v0 (-1) = 11) ∧ (h (h v0 8) (-1) = 20) ∧ (0 ≤ v1) ∧ (v1 < h (h v0 8) (-2)) ∧ ((v2 ≤ (h (h v0 8) v1)) → ((v3 = 2) → Runs G mm_X10_accesses [vR v0, vI v1, vI v2, vI v3] h (fun r h' => AW G mm_X10_requested (0, 0) 69 [] (r.toList ++ []) h' Q)) ∧ ((¬ (v3 = 2)) → ((¬ v2 = (h (h v0 8) v1)) → ((¬ v2 = (h (h v0 8) v1)) → ((2 ≤ v3) → Runs G mm_X10_tellsAgain [vR v0, vI v1, vI v2] h (fun r h' => AW G mm_X10_requested (0, 0) 114 [] (r.toList ++ []) h' Q)) ∧ ((¬ (2 ≤ v3)) → Runs G mm_X10_sends [vR v0, vI v1, vI 1, vI v2, vI 0, vI (-1)] h (fun r h' => AW G mm_X10_requested (0, 0) 105 [] (r.toList ++ []) h' Q))) ∧ ((v2 = (h (h v0 8) v1)) → Runs G mm_X10_receives [vR v0, vI v1, vI v2] h (fun r h' => AW G mm_X10_requested (0, 0) 88 [] (r.toList ++ []) h' Q))) ∧ ((v2 = (h (h v0 8) v1)) → ((v3 = 0) → ((¬ v2 = (h (h v0 8) v1)) → ((2 ≤ v3) → Runs G mm_X10_tellsAgain [vR v0, vI v1, vI v2] h (fun r h' => AW G mm_X10_requested (0, 0) 114 [] (r.toList ++ []) h' Q)) ∧ ((¬ (2 ≤ v3)) → Runs G mm_X10_sends [vR v0, vI v1, vI 1, vI v2, vI 0, vI (-1)] h (fun r h' => AW G mm_X10_requested (0, 0) 105 [] (r.toList ++ []) h' Q))) ∧ ((v2 = (h (h v0 8) v1)) → Runs G mm_X10_receives [vR v0, vI v1, vI v2] h (fun r h' => AW G mm_X10_requested (0, 0) 88 [] (r.toList ++ []) h' Q))) ∧ ((¬ (v3 = 0)) → Runs G mm_X10_accesses [vR v0, vI v1, vI v2, vI v3] h (fun r h' => AW G mm_X10_requested (0, 0) 69 [] (r.toList ++ []) h' Q))))) ∧ ((¬ (v2 ≤ (h (h v0 8) v1))) → (h (h v0 13) (-1) = 21) ∧ (v1 < h (h v0 13) (-2)) ∧ ((¬ (h (h v0 13) v1) = 0) → Q none h) ∧ (((h (h v0 13) v1) = 0) → Runs G mm_X10_sends [vR v0, vI v1, vI 2, vI (h (h v0 8) v1), vI 0, vI (-1)] h (fun r h' => AW G mm_X10_requested (0, 0) 33 [(0, vR v0), (1, vI v1)] (r.toList ++ []) h' Q)))) : Runs G mm_X10_requested [vR v0, vI v1, vI v2, vI v3] h Q := Runs.of (by decide +kernel) (Nat.le_of_ble_eq_true rfl) (sg_X10_requested_0 (b := (0, 0)) k)
set_option maxRecDepth 20000 in
theorem sg_X10_requested_69 {G : GG} {b : Nat × Nat} {Q : Option VV → Hp → Prop} {h : Hp} (k : Q none h) : AW G mm_X10_requested b 69 [] [] h Q := by
  refine aw_goto (tgt := 114) dX10_requested_69 (by decide) ?_
  exact aw_vret dX10_requested_114 rfl k
set_option maxRecDepth 20000 in
theorem sg_X10_requested_114 {G : GG} {b : Nat × Nat} {Q : Option VV → Hp → Prop} {h : Hp} (k : Q none h) : AW G mm_X10_requested b 114 [] [] h Q := by
  exact aw_vret dX10_requested_114 rfl k
set_option maxRecDepth 20000 in
theorem sg_X10_requested_105 {G : GG} {b : Nat × Nat} {Q : Option VV → Hp → Prop} {h : Hp} (k : Q none h) : AW G mm_X10_requested b 105 [] [] h Q := by
  refine aw_goto (tgt := 114) dX10_requested_105 (by decide) ?_
  exact aw_vret dX10_requested_114 rfl k
set_option maxRecDepth 20000 in
theorem sg_X10_requested_88 {G : GG} {b : Nat × Nat} {Q : Option VV → Hp → Prop} {h : Hp} (k : Q none h) : AW G mm_X10_requested b 88 [] [] h Q := by
  refine aw_goto (tgt := 114) dX10_requested_88 (by decide) ?_
  exact aw_vret dX10_requested_114 rfl k
set_option maxRecDepth 20000 in
theorem sg_X10_requested_33 {G : GG} {b : Nat × Nat} {Q : Option VV → Hp → Prop} {v0 v1 : Int} {h : Hp} (k : (h v0 (-1) = 11) ∧ (h (h v0 13) (-1) = 21) ∧ (0 ≤ v1) ∧ (v1 < h (h v0 13) (-2)) ∧ ∀ h1, h1 = wr h (h v0 13) v1 1 → Q none h1) : AW G mm_X10_requested b 33 [(0, vR v0), (1, vI v1)] [] h Q := by
  refine aw_aload_n 0 dX10_requested_33 rfl rfl ?_
  obtain ⟨o1, k⟩ := k
  refine aw_getR dX10_requested_34 fl_X10_49 rfl o1 (x := (h v0 13)) rfl ?_
  refine aw_iload_n 1 dX10_requested_37 rfl rfl ?_
  refine aw_iconst dX10_requested_38 ⟨by decide, by decide⟩ ?_
  obtain ⟨o2, k⟩ := k
  obtain ⟨o3, k⟩ := k
  obtain ⟨o4, k⟩ := k
  refine aw_zast dX10_requested_39 o2 o3 o4 (by decide) ?_
  refine aw_hp (fun h1 e5 => ?_)
  have k := k h1 e5
  refine aw_goto (tgt := 114) dX10_requested_40 (by decide) ?_
  exact aw_vret dX10_requested_114 rfl k
set_option maxRecDepth 20000 in
theorem sg_X10_send_0 {G : GG} {b : Nat × Nat} {Q : Option VV → Hp → Prop} {v0 v1 v2 : Int} {h : Hp} (k : ((0 ≤ v1 ∧ v1 ≤ 3) → ((0 ≤ v2 ∧ v2 ≤ 9999) → (h v0 (-1) = 11) ∧ Runs G mm_X10_post [vR v0, vI v1, vI 0, vI v2, vI 0, vI 0] h (fun r h' => AW G mm_X10_send b 35 [] (r.toList ++ []) h' Q)) ∧ ((¬ (0 ≤ v2 ∧ v2 ≤ 9999)) → Q (some (vI (-1002))) h)) ∧ ((¬ (0 ≤ v1 ∧ v1 ≤ 3)) → Q (some (vI (-1001))) h)) : AW G mm_X10_send b 0 [(0, vR v0), (1, vI v1), (2, vI v2)] [] h Q := by
  refine aw_iload_n 1 dX10_send_0 rfl rfl ?_
  refine aw_callS (M' := mm_X10_isEnd) [vI v1] [] lk_X10_220 dX10_send_1 rfl (Nat.le_of_ble_eq_true rfl) ⟨by decide, by decide, Nat.zero_le _, Nat.zero_le _⟩ ?_
  refine pu_X10_isEnd ?_
  refine aw_if_ne (tgt := 13) dX10_send_4 (by decide) (fun hc => ?_) (fun hc => ?_)
  · have k := k.1 (b2i_n.mp hc)
    refine aw_iload_n 2 dX10_send_13 rfl rfl ?_
    refine aw_callS (M' := mm_X10_isNumber) [vI v2] [] lk_X10_200 dX10_send_14 rfl (Nat.le_of_ble_eq_true rfl) ⟨by decide, by decide, Nat.zero_le _, Nat.zero_le _⟩ ?_
    refine pu_X10_isNumber ?_
    refine aw_if_ne (tgt := 26) dX10_send_17 (by decide) (fun hc => ?_) (fun hc => ?_)
    · have k := k.1 (b2i_n.mp hc)
      refine aw_aload_n 0 dX10_send_26 rfl rfl ?_
      refine aw_iload_n 1 dX10_send_27 rfl rfl ?_
      refine aw_iconst dX10_send_28 ⟨by decide, by decide⟩ ?_
      refine aw_iload_n 2 dX10_send_29 rfl rfl ?_
      refine aw_iconst dX10_send_30 ⟨by decide, by decide⟩ ?_
      refine aw_iconst dX10_send_31 ⟨by decide, by decide⟩ ?_
      obtain ⟨o1, k⟩ := k
      refine aw_callV (M' := mm_X10_post) 10 [vI v1, vI 0, vI v2, vI 0, vI 0] [] lk_X10_282 ⟨_, rfl, rfl⟩ dX10_send_32 rfl (Nat.le_of_ble_eq_true rfl) ⟨by decide, by decide, Nat.zero_le _, Nat.zero_le _⟩ o1 ?_
      exact k.mono (fun _ _ z => aw_sub [] rfl z)
    · have k := k.2 (b2i_0.mp hc)
      refine aw_sipush dX10_send_20 ⟨by decide, by decide⟩ (by decide) ?_
      refine aw_goto (tgt := 35) dX10_send_23 (by decide) ?_
      exact aw_iret dX10_send_35 rfl k
  · have k := k.2 (b2i_0.mp hc)
    refine aw_sipush dX10_send_7 ⟨by decide, by decide⟩ (by decide) ?_
    refine aw_goto (tgt := 35) dX10_send_10 (by decide) ?_
    exact aw_iret dX10_send_35 rfl k
theorem rn_X10_send {G : GG} {Q : Option VV → Hp → Prop} {v0 v1 v2 : Int} {h : Hp} (k : ((0 ≤ v1 ∧ v1 ≤ 3) → ((0 ≤ v2 ∧ v2 ≤ 9999) → (h v0 (-1) = 11) ∧ Runs G mm_X10_post [vR v0, vI v1, vI 0, vI v2, vI 0, vI 0] h (fun r h' => AW G mm_X10_send (0, 0) 35 [] (r.toList ++ []) h' Q)) ∧ ((¬ (0 ≤ v2 ∧ v2 ≤ 9999)) → Q (some (vI (-1002))) h)) ∧ ((¬ (0 ≤ v1 ∧ v1 ≤ 3)) → Q (some (vI (-1001))) h)) : Runs G mm_X10_send [vR v0, vI v1, vI v2] h Q := Runs.of (by decide +kernel) (Nat.le_of_ble_eq_true rfl) (sg_X10_send_0 (b := (0, 0)) k)
set_option maxRecDepth 20000 in
theorem sg_X10_send_35 {G : GG} {b : Nat × Nat} {Q : Option VV → Hp → Prop} {s0 : Int} {h : Hp} (k : Q (some (vI s0)) h) : AW G mm_X10_send b 35 [] [vI s0] h Q := by
  exact aw_iret dX10_send_35 rfl k
set_option maxRecDepth 20000 in
theorem sg_X10_sends_0 {G : GG} {b : Nat × Nat} {Q : Option VV → Hp → Prop} {v0 v1 v2 v3 v4 v5 : Int} {h : Hp} (k : (h v0 (-1) = 11) ∧ ((¬ (h v0 21) = 24) → (inI (11 * (h v0 21))) ∧ AW G mm_X10_sends b 32 [(0, vR v0), (1, vI v1), (2, vI v2), (3, vI v3), (4, vI v4), (5, vI v5), (6, vI (11 * (h v0 21))), (7, vI 0)] [] h Q) ∧ (((h v0 21) = 24) → (inI ((h v0 29) + 1)) ∧ ∀ h1, h1 = wr h v0 29 ((h v0 29) + 1) → Q none h1)) : AW G mm_X10_sends b 0 [(0, vR v0), (1, vI v1), (2, vI v2), (3, vI v3), (4, vI v4), (5, vI v5)] [] h Q := by
  refine aw_aload_n 0 dX10_sends_0 rfl rfl ?_
  obtain ⟨o1, k⟩ := k
  refine aw_getI dX10_sends_1 fl_X10_113 rfl o1 (x := (h v0 21)) rfl ?_
  refine aw_bipush dX10_sends_4 ⟨by decide, by decide⟩ (by decide) ?_
  refine aw_icmp_ne (tgt := 20) dX10_sends_6 (by decide) (fun hc => ?_) (fun hc => ?_)
  · have k := k.1 hc
    refine aw_bipush dX10_sends_20 ⟨by decide, by decide⟩ (by decide) ?_
    refine aw_aload_n 0 dX10_sends_22 rfl rfl ?_
    refine aw_getI dX10_sends_23 fl_X10_113 rfl o1 (x := (h v0 21)) rfl ?_
    obtain ⟨o2, k⟩ := k
    refine aw_imul dX10_sends_26 o2 ?_
    refine aw_istore dX10_sends_27 (by decide) ?_
    refine aw_iconst dX10_sends_29 ⟨by decide, by decide⟩ ?_
    refine aw_istore dX10_sends_30 (by decide) ?_
    exact aw_sub [2, 3, 4, 5, 6, 7, 1, 0] rfl k
  · have k := k.2 hc
    refine aw_aload_n 0 dX10_sends_9 rfl rfl ?_
    refine aw_dup dX10_sends_10 rfl ?_
    refine aw_getI dX10_sends_11 fl_X10_123 rfl o1 (x := (h v0 29)) rfl ?_
    refine aw_iconst dX10_sends_14 ⟨by decide, by decide⟩ ?_
    obtain ⟨o3, k⟩ := k
    refine aw_iadd dX10_sends_15 o3 ?_
    refine aw_putI dX10_sends_16 fl_X10_123 (fun q hq hf => by cases hq; cases hf) rfl rfl o1 ?_
    refine aw_hp (fun h1 e4 => ?_)
    have k := k h1 e4
    exact aw_vret dX10_sends_19 rfl k
theorem rn_X10_sends {G : GG} {Q : Option VV → Hp → Prop} {v0 v1 v2 v3 v4 v5 : Int} {h : Hp} (k : (h v0 (-1) = 11) ∧ ((¬ (h v0 21) = 24) → (inI (11 * (h v0 21))) ∧ AW G mm_X10_sends (0, 0) 32 [(0, vR v0), (1, vI v1), (2, vI v2), (3, vI v3), (4, vI v4), (5, vI v5), (6, vI (11 * (h v0 21))), (7, vI 0)] [] h Q) ∧ (((h v0 21) = 24) → (inI ((h v0 29) + 1)) ∧ ∀ h1, h1 = wr h v0 29 ((h v0 29) + 1) → Q none h1)) : Runs G mm_X10_sends [vR v0, vI v1, vI v2, vI v3, vI v4, vI v5] h Q := Runs.of (by decide +kernel) (Nat.le_of_ble_eq_true rfl) (sg_X10_sends_0 (b := (0, 0)) k)
set_option maxRecDepth 20000 in
theorem sg_X10_sends_32 {G : GG} {b : Nat × Nat} {Q : Option VV → Hp → Prop} {v0 v1 v2 v3 v4 v5 v6 v7 : Int} {h : Hp} (k : ((6 ≤ v7) → (h v0 (-1) = 11) ∧ (inI (v6 + 0)) ∧ (h (h v0 20) (-1) = 20) ∧ (0 ≤ (v6 + 0)) ∧ ((v6 + 0) < h (h v0 20) (-2)) ∧ ∀ h1, h1 = wr h (h v0 20) (v6 + 0) (iXor v1 1) → (inI (v6 + 1)) ∧ (0 ≤ (v6 + 1)) ∧ ((v6 + 1) < h (h v0 20) (-2)) ∧ ∀ h2, h2 = wr h1 (h v0 20) (v6 + 1) v2 → (inI (v6 + 2)) ∧ (0 ≤ (v6 + 2)) ∧ ((v6 + 2) < h (h v0 20) (-2)) ∧ ∀ h3, h3 = wr h2 (h v0 20) (v6 + 2) v3 → (inI (v6 + 8)) ∧ (0 ≤ (v6 + 8)) ∧ ((v6 + 8) < h (h v0 20) (-2)) ∧ ∀ h4, h4 = wr h3 (h v0 20) (v6 + 8) v4 → (inI (v6 + 9)) ∧ (0 ≤ v1) ∧ (h (h v0 18) (-1) = 20) ∧ (0 ≤ (v1 / 2)) ∧ ((v1 / 2) < h (h v0 18) (-2)) ∧ (inI ((h v0 19) + (h4 (h v0 18) (v1 / 2)))) ∧ (0 ≤ (v6 + 9)) ∧ ((v6 + 9) < h (h v0 20) (-2)) ∧ ∀ h5, h5 = wr h4 (h v0 20) (v6 + 9) ((h v0 19) + (h4 (h v0 18) (v1 / 2))) → (inI (v6 + 10)) ∧ (0 ≤ (v6 + 10)) ∧ ((v6 + 10) < h (h v0 20) (-2)) ∧ ∀ h6, h6 = wr h5 (h v0 20) (v6 + 10) (h v0 22) → (inI ((h v0 22) + 1)) ∧ ∀ h7, h7 = wr h6 v0 22 ((h v0 22) + 1) → (inI ((h v0 21) + 1)) ∧ ∀ h8, h8 = wr h7 v0 21 ((h v0 21) + 1) → Q none h8) ∧ ((¬ (6 ≤ v7)) → (h v0 (-1) = 11) ∧ (inI (v6 + 2)) ∧ (inI ((v6 + 2) + v7)) ∧ ((v5 < 0) → (h (h v0 20) (-1) = 20) ∧ (0 ≤ ((v6 + 2) + v7)) ∧ (((v6 + 2) + v7) < h (h v0 20) (-2)) ∧ ∀ h1, h1 = wr h (h v0 20) ((v6 + 2) + v7) 0 → (inI (v7 + 1)) ∧ AW G mm_X10_sends b 32 [(0, vR v0), (1, vI v1), (2, vI v2), (3, vI v3), (4, vI v4), (5, vI v5), (6, vI v6), (7, vI (v7 + 1))] [] h1 Q) ∧ ((¬ (v5 < 0)) → (inI (v5 + v7)) ∧ (h (h v0 7) (-1) = 20) ∧ (0 ≤ (v5 + v7)) ∧ ((v5 + v7) < h (h v0 7) (-2)) ∧ (h (h v0 20) (-1) = 20) ∧ (0 ≤ ((v6 + 2) + v7)) ∧ (((v6 + 2) + v7) < h (h v0 20) (-2)) ∧ ∀ h1, h1 = wr h (h v0 20) ((v6 + 2) + v7) (h (h v0 7) (v5 + v7)) → (inI (v7 + 1)) ∧ AW G mm_X10_sends b 32 [(0, vR v0), (1, vI v1), (2, vI v2), (3, vI v3), (4, vI v4), (5, vI v5), (6, vI v6), (7, vI (v7 + 1))] [] h1 Q))) : AW G mm_X10_sends b 32 [(0, vR v0), (1, vI v1), (2, vI v2), (3, vI v3), (4, vI v4), (5, vI v5), (6, vI v6), (7, vI v7)] [] h Q := by
  refine aw_iload 7 dX10_sends_32 rfl ?_
  refine aw_bipush dX10_sends_34 ⟨by decide, by decide⟩ (by decide) ?_
  refine aw_icmp_ge (tgt := 76) dX10_sends_36 (by decide) (fun hc => ?_) (fun hc => ?_)
  · have k := k.1 hc
    refine aw_aload_n 0 dX10_sends_76 rfl rfl ?_
    obtain ⟨o1, k⟩ := k
    refine aw_getR dX10_sends_77 fl_X10_68 rfl o1 (x := (h v0 20)) rfl ?_
    refine aw_iload 6 dX10_sends_80 rfl ?_
    refine aw_iconst dX10_sends_82 ⟨by decide, by decide⟩ ?_
    obtain ⟨o2, k⟩ := k
    refine aw_iadd dX10_sends_83 o2 ?_
    refine aw_iload_n 1 dX10_sends_84 rfl rfl ?_
    refine aw_iconst dX10_sends_85 ⟨by decide, by decide⟩ ?_
    refine aw_ixor dX10_sends_86 ?_
    obtain ⟨o3, k⟩ := k
    obtain ⟨o4, k⟩ := k
    obtain ⟨o5, k⟩ := k
    refine aw_iast dX10_sends_87 o3 o4 o5 ?_
    refine aw_hp (fun h1 e6 => ?_)
    have k := k h1 e6
    refine aw_aload_n 0 dX10_sends_88 rfl rfl ?_
    have q7 := sh_w e6 o4 o1
    refine aw_getR dX10_sends_89 fl_X10_68 rfl q7 (x := (h v0 20)) (rd_a e6 v0 20 (ne_sh o3 o1 (by decide))) ?_
    refine aw_iload 6 dX10_sends_92 rfl ?_
    refine aw_iconst dX10_sends_94 ⟨by decide, by decide⟩ ?_
    obtain ⟨o8, k⟩ := k
    refine aw_iadd dX10_sends_95 o8 ?_
    refine aw_iload_n 2 dX10_sends_96 rfl rfl ?_
    obtain ⟨o9, k⟩ := k
    obtain ⟨o10, k⟩ := k
    have q11 := sh_w e6 o4 o3
    refine aw_iast dX10_sends_97 q11 o9 (lt_l (ln_w e6 (h v0 20) o4) o10) ?_
    refine aw_hp (fun h2 e12 => ?_)
    have k := k h2 e12
    refine aw_aload_n 0 dX10_sends_98 rfl rfl ?_
    have q13 := sh_w e12 o9 q7
    refine aw_getR dX10_sends_99 fl_X10_68 rfl q13 (x := (h v0 20)) ((rd_a e12 v0 20 (ne_sh q11 q7 (by decide))).trans (rd_a e6 v0 20 (ne_sh o3 o1 (by decide)))) ?_
    refine aw_iload 6 dX10_sends_102 rfl ?_
    refine aw_iconst dX10_sends_104 ⟨by decide, by decide⟩ ?_
    obtain ⟨o14, k⟩ := k
    refine aw_iadd dX10_sends_105 o14 ?_
    refine aw_iload_n 3 dX10_sends_106 rfl rfl ?_
    obtain ⟨o15, k⟩ := k
    obtain ⟨o16, k⟩ := k
    have q17 := sh_w e12 o9 q11
    refine aw_iast dX10_sends_107 q17 o15 (lt_l ((ln_w e12 (h v0 20) o9).trans (ln_w e6 (h v0 20) o4)) o16) ?_
    refine aw_hp (fun h3 e18 => ?_)
    have k := k h3 e18
    refine aw_aload_n 0 dX10_sends_108 rfl rfl ?_
    have q19 := sh_w e18 o15 q13
    refine aw_getR dX10_sends_109 fl_X10_68 rfl q19 (x := (h v0 20)) ((rd_a e18 v0 20 (ne_sh q17 q13 (by decide))).trans ((rd_a e12 v0 20 (ne_sh q11 q7 (by decide))).trans (rd_a e6 v0 20 (ne_sh o3 o1 (by decide))))) ?_
    refine aw_iload 6 dX10_sends_112 rfl ?_
    refine aw_bipush dX10_sends_114 ⟨by decide, by decide⟩ (by decide) ?_
    obtain ⟨o20, k⟩ := k
    refine aw_iadd dX10_sends_116 o20 ?_
    refine aw_iload 4 dX10_sends_117 rfl ?_
    obtain ⟨o21, k⟩ := k
    obtain ⟨o22, k⟩ := k
    have q23 := sh_w e18 o15 q17
    refine aw_iast dX10_sends_119 q23 o21 (lt_l ((ln_w e18 (h v0 20) o15).trans ((ln_w e12 (h v0 20) o9).trans (ln_w e6 (h v0 20) o4))) o22) ?_
    refine aw_hp (fun h4 e24 => ?_)
    have k := k h4 e24
    refine aw_aload_n 0 dX10_sends_120 rfl rfl ?_
    have q25 := sh_w e24 o21 q19
    refine aw_getR dX10_sends_121 fl_X10_68 rfl q25 (x := (h v0 20)) ((rd_a e24 v0 20 (ne_sh q23 q19 (by decide))).trans ((rd_a e18 v0 20 (ne_sh q17 q13 (by decide))).trans ((rd_a e12 v0 20 (ne_sh q11 q7 (by decide))).trans (rd_a e6 v0 20 (ne_sh o3 o1 (by decide)))))) ?_
    refine aw_iload 6 dX10_sends_124 rfl ?_
    refine aw_bipush dX10_sends_126 ⟨by decide, by decide⟩ (by decide) ?_
    obtain ⟨o26, k⟩ := k
    refine aw_iadd dX10_sends_128 o26 ?_
    refine aw_aload_n 0 dX10_sends_129 rfl rfl ?_
    refine aw_getI dX10_sends_130 fl_X10_109 rfl q25 (x := (h v0 19)) ((rd_a e24 v0 19 (ne_sh q23 q19 (by decide))).trans ((rd_a e18 v0 19 (ne_sh q17 q13 (by decide))).trans ((rd_a e12 v0 19 (ne_sh q11 q7 (by decide))).trans (rd_a e6 v0 19 (ne_sh o3 o1 (by decide)))))) ?_
    refine aw_aload_n 0 dX10_sends_133 rfl rfl ?_
    refine aw_getR dX10_sends_134 fl_X10_65 rfl q25 (x := (h v0 18)) ((rd_a e24 v0 18 (ne_sh q23 q19 (by decide))).trans ((rd_a e18 v0 18 (ne_sh q17 q13 (by decide))).trans ((rd_a e12 v0 18 (ne_sh q11 q7 (by decide))).trans (rd_a e6 v0 18 (ne_sh o3 o1 (by decide)))))) ?_
    refine aw_iload_n 1 dX10_sends_137 rfl rfl ?_
    refine aw_iconst dX10_sends_138 ⟨by decide, by decide⟩ ?_
    obtain ⟨o27, k⟩ := k
    refine aw_idiv dX10_sends_139 o27 (by decide) ?_
    obtain ⟨o28, k⟩ := k
    obtain ⟨o29, k⟩ := k
    obtain ⟨o30, k⟩ := k
    have q31 := sh_w e6 o4 o28
    have q32 := sh_w e12 o9 q31
    have q33 := sh_w e18 o15 q32
    have q34 := sh_w e24 o21 q33
    refine aw_iald dX10_sends_140 q34 o29 (lt_l ((ln_w e24 (h v0 18) o21).trans ((ln_w e18 (h v0 18) o15).trans ((ln_w e12 (h v0 18) o9).trans (ln_w e6 (h v0 18) o4)))) o30) (x := (h4 (h v0 18) (v1 / 2))) rfl ?_
    obtain ⟨o35, k⟩ := k
    refine aw_iadd dX10_sends_141 o35 ?_
    obtain ⟨o36, k⟩ := k
    obtain ⟨o37, k⟩ := k
    have q38 := sh_w e24 o21 q23
    refine aw_iast dX10_sends_142 q38 o36 (lt_l ((ln_w e24 (h v0 20) o21).trans ((ln_w e18 (h v0 20) o15).trans ((ln_w e12 (h v0 20) o9).trans (ln_w e6 (h v0 20) o4)))) o37) ?_
    refine aw_hp (fun h5 e39 => ?_)
    have k := k h5 e39
    refine aw_aload_n 0 dX10_sends_143 rfl rfl ?_
    have q40 := sh_w e39 o36 q25
    refine aw_getR dX10_sends_144 fl_X10_68 rfl q40 (x := (h v0 20)) ((rd_a e39 v0 20 (ne_sh q38 q25 (by decide))).trans ((rd_a e24 v0 20 (ne_sh q23 q19 (by decide))).trans ((rd_a e18 v0 20 (ne_sh q17 q13 (by decide))).trans ((rd_a e12 v0 20 (ne_sh q11 q7 (by decide))).trans (rd_a e6 v0 20 (ne_sh o3 o1 (by decide))))))) ?_
    refine aw_iload 6 dX10_sends_147 rfl ?_
    refine aw_bipush dX10_sends_149 ⟨by decide, by decide⟩ (by decide) ?_
    obtain ⟨o41, k⟩ := k
    refine aw_iadd dX10_sends_151 o41 ?_
    refine aw_aload_n 0 dX10_sends_152 rfl rfl ?_
    refine aw_getI dX10_sends_153 fl_X10_228 rfl q40 (x := (h v0 22)) ((rd_a e39 v0 22 (ne_sh q38 q25 (by decide))).trans ((rd_a e24 v0 22 (ne_sh q23 q19 (by decide))).trans ((rd_a e18 v0 22 (ne_sh q17 q13 (by decide))).trans ((rd_a e12 v0 22 (ne_sh q11 q7 (by decide))).trans (rd_a e6 v0 22 (ne_sh o3 o1 (by decide))))))) ?_
    obtain ⟨o42, k⟩ := k
    obtain ⟨o43, k⟩ := k
    have q44 := sh_w e39 o36 q38
    refine aw_iast dX10_sends_156 q44 o42 (lt_l ((ln_w e39 (h v0 20) o36).trans ((ln_w e24 (h v0 20) o21).trans ((ln_w e18 (h v0 20) o15).trans ((ln_w e12 (h v0 20) o9).trans (ln_w e6 (h v0 20) o4))))) o43) ?_
    refine aw_hp (fun h6 e45 => ?_)
    have k := k h6 e45
    refine aw_aload_n 0 dX10_sends_157 rfl rfl ?_
    refine aw_dup dX10_sends_158 rfl ?_
    have q46 := sh_w e45 o42 q40
    refine aw_getI dX10_sends_159 fl_X10_228 rfl q46 (x := (h v0 22)) ((rd_a e45 v0 22 (ne_sh q44 q40 (by decide))).trans ((rd_a e39 v0 22 (ne_sh q38 q25 (by decide))).trans ((rd_a e24 v0 22 (ne_sh q23 q19 (by decide))).trans ((rd_a e18 v0 22 (ne_sh q17 q13 (by decide))).trans ((rd_a e12 v0 22 (ne_sh q11 q7 (by decide))).trans (rd_a e6 v0 22 (ne_sh o3 o1 (by decide)))))))) ?_
    refine aw_iconst dX10_sends_162 ⟨by decide, by decide⟩ ?_
    obtain ⟨o47, k⟩ := k
    refine aw_iadd dX10_sends_163 o47 ?_
    refine aw_putI dX10_sends_164 fl_X10_228 (fun q hq hf => by cases hq; cases hf) rfl rfl q46 ?_
    refine aw_hp (fun h7 e48 => ?_)
    have k := k h7 e48
    refine aw_aload_n 0 dX10_sends_167 rfl rfl ?_
    refine aw_dup dX10_sends_168 rfl ?_
    have q49 := sh_w e48 (by decide) q46
    refine aw_getI dX10_sends_169 fl_X10_113 rfl q49 (x := (h v0 21)) ((rd_k e48 21 (by decide)).trans ((rd_a e45 v0 21 (ne_sh q44 q40 (by decide))).trans ((rd_a e39 v0 21 (ne_sh q38 q25 (by decide))).trans ((rd_a e24 v0 21 (ne_sh q23 q19 (by decide))).trans ((rd_a e18 v0 21 (ne_sh q17 q13 (by decide))).trans ((rd_a e12 v0 21 (ne_sh q11 q7 (by decide))).trans (rd_a e6 v0 21 (ne_sh o3 o1 (by decide))))))))) ?_
    refine aw_iconst dX10_sends_172 ⟨by decide, by decide⟩ ?_
    obtain ⟨o50, k⟩ := k
    refine aw_iadd dX10_sends_173 o50 ?_
    refine aw_putI dX10_sends_174 fl_X10_113 (fun q hq hf => by cases hq; cases hf) rfl rfl q49 ?_
    refine aw_hp (fun h8 e51 => ?_)
    have k := k h8 e51
    exact aw_vret dX10_sends_177 rfl k
  · have k := k.2 hc
    refine aw_aload_n 0 dX10_sends_39 rfl rfl ?_
    obtain ⟨o52, k⟩ := k
    refine aw_getR dX10_sends_40 fl_X10_68 rfl o52 (x := (h v0 20)) rfl ?_
    refine aw_iload 6 dX10_sends_43 rfl ?_
    refine aw_iconst dX10_sends_45 ⟨by decide, by decide⟩ ?_
    obtain ⟨o53, k⟩ := k
    refine aw_iadd dX10_sends_46 o53 ?_
    refine aw_iload 7 dX10_sends_47 rfl ?_
    obtain ⟨o54, k⟩ := k
    refine aw_iadd dX10_sends_49 o54 ?_
    refine aw_iload 5 dX10_sends_50 rfl ?_
    refine aw_if_lt (tgt := 68) dX10_sends_52 (by decide) (fun hc => ?_) (fun hc => ?_)
    · have k := k.1 hc
      refine aw_iconst dX10_sends_68 ⟨by decide, by decide⟩ ?_
      obtain ⟨o55, k⟩ := k
      obtain ⟨o56, k⟩ := k
      obtain ⟨o57, k⟩ := k
      refine aw_iast dX10_sends_69 o55 o56 o57 ?_
      refine aw_hp (fun h1 e58 => ?_)
      have k := k h1 e58
      obtain ⟨o59, k⟩ := k
      refine aw_iinc 7 dX10_sends_70 rfl o59 (by decide) ?_
      refine aw_goto (tgt := 32) dX10_sends_73 (by decide) ?_
      exact aw_sub [1, 2, 3, 4, 5, 6, 7, 0] rfl k
    · have k := k.2 hc
      refine aw_aload_n 0 dX10_sends_55 rfl rfl ?_
      refine aw_getR dX10_sends_56 fl_X10_31 rfl o52 (x := (h v0 7)) rfl ?_
      refine aw_iload 5 dX10_sends_59 rfl ?_
      refine aw_iload 7 dX10_sends_61 rfl ?_
      obtain ⟨o60, k⟩ := k
      refine aw_iadd dX10_sends_63 o60 ?_
      obtain ⟨o61, k⟩ := k
      obtain ⟨o62, k⟩ := k
      obtain ⟨o63, k⟩ := k
      refine aw_iald dX10_sends_64 o61 o62 o63 (x := (h (h v0 7) (v5 + v7))) rfl ?_
      refine aw_goto (tgt := 69) dX10_sends_65 (by decide) ?_
      obtain ⟨o64, k⟩ := k
      obtain ⟨o65, k⟩ := k
      obtain ⟨o66, k⟩ := k
      refine aw_iast dX10_sends_69 o64 o65 o66 ?_
      refine aw_hp (fun h1 e67 => ?_)
      have k := k h1 e67
      obtain ⟨o68, k⟩ := k
      refine aw_iinc 7 dX10_sends_70 rfl o68 (by decide) ?_
      refine aw_goto (tgt := 32) dX10_sends_73 (by decide) ?_
      exact aw_sub [1, 2, 3, 4, 5, 6, 7, 0] rfl k
set_option maxRecDepth 20000 in
theorem sg_X10_sendsWork_0 {G : GG} {b : Nat × Nat} {Q : Option VV → Hp → Prop} {v0 v1 v2 : Int} {h : Hp} (k : (inI (4 * v1)) ∧ (inI ((4 * v1) + v2)) ∧ (inI (7 * ((4 * v1) + v2))) ∧ (h v0 (-1) = 11) ∧ (inI ((7 * ((4 * v1) + v2)) + 0)) ∧ (h (h v0 7) (-1) = 20) ∧ (0 ≤ ((7 * ((4 * v1) + v2)) + 0)) ∧ (((7 * ((4 * v1) + v2)) + 0) < h (h v0 7) (-2)) ∧ Runs G mm_X10_sends [vR v0, vI v1, vI 0, vI (h (h v0 7) ((7 * ((4 * v1) + v2)) + 0)), vI 0, vI (7 * ((4 * v1) + v2))] h (fun r h' => AW G mm_X10_sendsWork b 25 [] (r.toList ++ []) h' Q)) : AW G mm_X10_sendsWork b 0 [(0, vR v0), (1, vI v1), (2, vI v2)] [] h Q := by
  refine aw_bipush dX10_sendsWork_0 ⟨by decide, by decide⟩ (by decide) ?_
  refine aw_iconst dX10_sendsWork_2 ⟨by decide, by decide⟩ ?_
  refine aw_iload_n 1 dX10_sendsWork_3 rfl rfl ?_
  obtain ⟨o1, k⟩ := k
  refine aw_imul dX10_sendsWork_4 o1 ?_
  refine aw_iload_n 2 dX10_sendsWork_5 rfl rfl ?_
  obtain ⟨o2, k⟩ := k
  refine aw_iadd dX10_sendsWork_6 o2 ?_
  obtain ⟨o3, k⟩ := k
  refine aw_imul dX10_sendsWork_7 o3 ?_
  refine aw_istore_n dX10_sendsWork_8 rfl (by decide) ?_
  refine aw_aload_n 1 dX10_sendsWork_9 rfl rfl ?_
  refine aw_iload_n 2 dX10_sendsWork_10 rfl rfl ?_
  refine aw_iconst dX10_sendsWork_11 ⟨by decide, by decide⟩ ?_
  refine aw_aload_n 1 dX10_sendsWork_12 rfl rfl ?_
  obtain ⟨o4, k⟩ := k
  refine aw_getR dX10_sendsWork_13 fl_X10_31 rfl o4 (x := (h v0 7)) rfl ?_
  refine aw_iload_n 0 dX10_sendsWork_16 rfl rfl ?_
  refine aw_iconst dX10_sendsWork_17 ⟨by decide, by decide⟩ ?_
  obtain ⟨o5, k⟩ := k
  refine aw_iadd dX10_sendsWork_18 o5 ?_
  obtain ⟨o6, k⟩ := k
  obtain ⟨o7, k⟩ := k
  obtain ⟨o8, k⟩ := k
  refine aw_iald dX10_sendsWork_19 o6 o7 o8 (x := (h (h v0 7) ((7 * ((4 * v1) + v2)) + 0))) rfl ?_
  refine aw_iconst dX10_sendsWork_20 ⟨by decide, by decide⟩ ?_
  refine aw_iload_n 0 dX10_sendsWork_21 rfl rfl ?_
  refine aw_callV (M' := mm_X10_sends) 10 [vI v1, vI 0, vI (h (h v0 7) ((7 * ((4 * v1) + v2)) + 0)), vI 0, vI (7 * ((4 * v1) + v2))] [] lk_X10_248 ⟨_, rfl, rfl⟩ dX10_sendsWork_22 rfl (Nat.le_of_ble_eq_true rfl) ⟨by decide, by decide, Nat.zero_le _, Nat.zero_le _⟩ o4 ?_
  exact k.mono (fun _ _ z => aw_sub [] rfl z)
theorem rn_X10_sendsWork {G : GG} {Q : Option VV → Hp → Prop} {v0 v1 v2 : Int} {h : Hp} (k : (inI (4 * v1)) ∧ (inI ((4 * v1) + v2)) ∧ (inI (7 * ((4 * v1) + v2))) ∧ (h v0 (-1) = 11) ∧ (inI ((7 * ((4 * v1) + v2)) + 0)) ∧ (h (h v0 7) (-1) = 20) ∧ (0 ≤ ((7 * ((4 * v1) + v2)) + 0)) ∧ (((7 * ((4 * v1) + v2)) + 0) < h (h v0 7) (-2)) ∧ Runs G mm_X10_sends [vR v0, vI v1, vI 0, vI (h (h v0 7) ((7 * ((4 * v1) + v2)) + 0)), vI 0, vI (7 * ((4 * v1) + v2))] h (fun r h' => AW G mm_X10_sendsWork (0, 0) 25 [] (r.toList ++ []) h' Q)) : Runs G mm_X10_sendsWork [vR v0, vI v1, vI v2] h Q := Runs.of (by decide +kernel) (Nat.le_of_ble_eq_true rfl) (sg_X10_sendsWork_0 (b := (0, 0)) k)
set_option maxRecDepth 20000 in
theorem sg_X10_sendsWork_25 {G : GG} {b : Nat × Nat} {Q : Option VV → Hp → Prop} {h : Hp} (k : Q none h) : AW G mm_X10_sendsWork b 25 [] [] h Q := by
  exact aw_vret dX10_sendsWork_25 rfl k
