/-! printed by writeseg.py: the law -/
set_option maxRecDepth 20000 in
theorem sg_L_law_960 {G : GG} {b : Nat × Nat} {Z : LZ} {v1 v2 v3 s0 : Int} {h : Hp} (k : (inI (v3 + 1)) ∧ (0 ≤ (v3 + 1)) ∧ ((v3 + 1) < sL G) ∧ (h v2 (-1) = 11) ∧ Runs G mm_X10_packet [vR v2, vI (sX G (v3 + 1))] h (fun r h' => AZ G mm_L_law b 969 [(0, vR (-1)), (1, vR v1), (2, vR v2), (3, vI v3)] (r.toList ++ [vI s0]) h' Z)) : AZ G mm_L_law b 960 [(0, vR (-1)), (1, vR v1), (2, vR v2), (3, vI v3)] [vI s0] h Z := by
  refine aw_aload_n 2 dL_law_960 rfl rfl ?_
  refine aw_aload_n 0 dL_law_961 rfl rfl ?_
  refine aw_iload_n 3 dL_law_962 rfl rfl ?_
  refine aw_iconst dL_law_963 ⟨by decide, by decide⟩ ?_
  obtain ⟨o1, k⟩ := k
  refine aw_iadd dL_law_964 o1 ?_
  obtain ⟨o2, k⟩ := k
  obtain ⟨o3, k⟩ := k
  refine aw_sld o2 o3 dL_law_965 ?_
  obtain ⟨o4, k⟩ := k
  refine aw_callV (M' := mm_X10_packet) 10 [vI (sX G (v3 + 1))] [vI s0] lk_L_122 ⟨_, rfl, rfl⟩ dL_law_966 rfl (Nat.le_of_ble_eq_true rfl) ⟨by decide, by decide, Nat.zero_le _, Nat.zero_le _⟩ o4 ?_
  exact k
set_option maxRecDepth 20000 in
theorem sg_L_law_983 {G : GG} {b : Nat × Nat} {Z : LZ} {v1 v2 v3 s0 : Int} {h : Hp} (k : (inI (v3 + 1)) ∧ (0 ≤ (v3 + 1)) ∧ ((v3 + 1) < sL G) ∧ (h v2 (-1) = 11) ∧ Runs G mm_X10_count [vR v2, vI (sX G (v3 + 1))] h (fun r h' => AZ G mm_L_law b 992 [(0, vR (-1)), (1, vR v1), (2, vR v2), (3, vI v3)] (r.toList ++ [vI s0]) h' Z)) : AZ G mm_L_law b 983 [(0, vR (-1)), (1, vR v1), (2, vR v2), (3, vI v3)] [vI s0] h Z := by
  refine aw_aload_n 2 dL_law_983 rfl rfl ?_
  refine aw_aload_n 0 dL_law_984 rfl rfl ?_
  refine aw_iload_n 3 dL_law_985 rfl rfl ?_
  refine aw_iconst dL_law_986 ⟨by decide, by decide⟩ ?_
  obtain ⟨o1, k⟩ := k
  refine aw_iadd dL_law_987 o1 ?_
  obtain ⟨o2, k⟩ := k
  obtain ⟨o3, k⟩ := k
  refine aw_sld o2 o3 dL_law_988 ?_
  obtain ⟨o4, k⟩ := k
  refine aw_callV (M' := mm_X10_count) 10 [vI (sX G (v3 + 1))] [vI s0] lk_L_126 ⟨_, rfl, rfl⟩ dL_law_989 rfl (Nat.le_of_ble_eq_true rfl) ⟨by decide, by decide, Nat.zero_le _, Nat.zero_le _⟩ o4 ?_
  exact k
set_option maxRecDepth 20000 in
theorem sg_L_law_174 {G : GG} {b : Nat × Nat} {Z : LZ} {v1 v2 v3 s0 s1 : Int} {h : Hp} (k : ((s1 = s0) → (inI (v3 + 6)) ∧ AZ G mm_L_law b 18 [(0, vR (-1)), (1, vR v1), (2, vR v2), (3, vI (v3 + 6))] [] h Z) ∧ ((¬ (s1 = s0)) → AZ G mm_L_law b 178 [(0, vR (-1)), (1, vR v1), (2, vR v2), (3, vI v3)] [vI 0] h Z)) : AZ G mm_L_law b 174 [(0, vR (-1)), (1, vR v1), (2, vR v2), (3, vI v3)] [vI s0, vI s1] h Z := by
  refine aw_icmp_eq (tgt := 997) dL_law_174 (by decide) (fun hc => ?_) (fun hc => ?_)
  · have k := k.1 hc
    obtain ⟨o1, k⟩ := k
    refine aw_iinc 3 dL_law_997 rfl o1 (by decide) ?_
    refine aw_goto (tgt := 18) dL_law_1000 (by decide) ?_
    exact aw_sub [1, 2, 3, 0] rfl k
  · have k := k.2 hc
    refine aw_iconst dL_law_177 ⟨by decide, by decide⟩ ?_
    exact k
set_option maxRecDepth 20000 in
theorem sg_L_law_187 {G : GG} {b : Nat × Nat} {Z : LZ} {v1 v2 v3 s0 s1 : Int} {h : Hp} (k : ((s1 = s0) → (inI (v3 + 6)) ∧ AZ G mm_L_law b 18 [(0, vR (-1)), (1, vR v1), (2, vR v2), (3, vI (v3 + 6))] [] h Z) ∧ ((¬ (s1 = s0)) → AZ G mm_L_law b 191 [(0, vR (-1)), (1, vR v1), (2, vR v2), (3, vI v3)] [vI 0] h Z)) : AZ G mm_L_law b 187 [(0, vR (-1)), (1, vR v1), (2, vR v2), (3, vI v3)] [vI s0, vI s1] h Z := by
  refine aw_icmp_eq (tgt := 997) dL_law_187 (by decide) (fun hc => ?_) (fun hc => ?_)
  · have k := k.1 hc
    obtain ⟨o1, k⟩ := k
    refine aw_iinc 3 dL_law_997 rfl o1 (by decide) ?_
    refine aw_goto (tgt := 18) dL_law_1000 (by decide) ?_
    exact aw_sub [1, 2, 3, 0] rfl k
  · have k := k.2 hc
    refine aw_iconst dL_law_190 ⟨by decide, by decide⟩ ?_
    exact k
set_option maxRecDepth 20000 in
theorem sg_L_law_200 {G : GG} {b : Nat × Nat} {Z : LZ} {v1 v2 v3 s0 s1 : Int} {h : Hp} (k : ((s1 = s0) → (inI (v3 + 6)) ∧ AZ G mm_L_law b 18 [(0, vR (-1)), (1, vR v1), (2, vR v2), (3, vI (v3 + 6))] [] h Z) ∧ ((¬ (s1 = s0)) → AZ G mm_L_law b 204 [(0, vR (-1)), (1, vR v1), (2, vR v2), (3, vI v3)] [vI 0] h Z)) : AZ G mm_L_law b 200 [(0, vR (-1)), (1, vR v1), (2, vR v2), (3, vI v3)] [vI s0, vI s1] h Z := by
  refine aw_icmp_eq (tgt := 997) dL_law_200 (by decide) (fun hc => ?_) (fun hc => ?_)
  · have k := k.1 hc
    obtain ⟨o1, k⟩ := k
    refine aw_iinc 3 dL_law_997 rfl o1 (by decide) ?_
    refine aw_goto (tgt := 18) dL_law_1000 (by decide) ?_
    exact aw_sub [1, 2, 3, 0] rfl k
  · have k := k.2 hc
    refine aw_iconst dL_law_203 ⟨by decide, by decide⟩ ?_
    exact k
set_option maxRecDepth 20000 in
theorem sg_L_law_213 {G : GG} {b : Nat × Nat} {Z : LZ} {v1 v2 v3 s0 s1 : Int} {h : Hp} (k : ((s1 = s0) → (inI (v3 + 6)) ∧ AZ G mm_L_law b 18 [(0, vR (-1)), (1, vR v1), (2, vR v2), (3, vI (v3 + 6))] [] h Z) ∧ ((¬ (s1 = s0)) → AZ G mm_L_law b 217 [(0, vR (-1)), (1, vR v1), (2, vR v2), (3, vI v3)] [vI 0] h Z)) : AZ G mm_L_law b 213 [(0, vR (-1)), (1, vR v1), (2, vR v2), (3, vI v3)] [vI s0, vI s1] h Z := by
  refine aw_icmp_eq (tgt := 997) dL_law_213 (by decide) (fun hc => ?_) (fun hc => ?_)
  · have k := k.1 hc
    obtain ⟨o1, k⟩ := k
    refine aw_iinc 3 dL_law_997 rfl o1 (by decide) ?_
    refine aw_goto (tgt := 18) dL_law_1000 (by decide) ?_
    exact aw_sub [1, 2, 3, 0] rfl k
  · have k := k.2 hc
    refine aw_iconst dL_law_216 ⟨by decide, by decide⟩ ?_
    exact k
set_option maxRecDepth 20000 in
theorem sg_L_law_246 {G : GG} {b : Nat × Nat} {Z : LZ} {v1 v2 v3 s0 s1 : Int} {h : Hp} (k : ((s1 = s0) → (inI (v3 + 6)) ∧ AZ G mm_L_law b 18 [(0, vR (-1)), (1, vR v1), (2, vR v2), (3, vI (v3 + 6))] [] h Z) ∧ ((¬ (s1 = s0)) → AZ G mm_L_law b 250 [(0, vR (-1)), (1, vR v1), (2, vR v2), (3, vI v3)] [vI 0] h Z)) : AZ G mm_L_law b 246 [(0, vR (-1)), (1, vR v1), (2, vR v2), (3, vI v3)] [vI s0, vI s1] h Z := by
  refine aw_icmp_eq (tgt := 997) dL_law_246 (by decide) (fun hc => ?_) (fun hc => ?_)
  · have k := k.1 hc
    obtain ⟨o1, k⟩ := k
    refine aw_iinc 3 dL_law_997 rfl o1 (by decide) ?_
    refine aw_goto (tgt := 18) dL_law_1000 (by decide) ?_
    exact aw_sub [1, 2, 3, 0] rfl k
  · have k := k.2 hc
    refine aw_iconst dL_law_249 ⟨by decide, by decide⟩ ?_
    exact k
set_option maxRecDepth 20000 in
theorem sg_L_law_289 {G : GG} {b : Nat × Nat} {Z : LZ} {v1 v2 v3 s0 s1 : Int} {h : Hp} (k : ((s1 = s0) → (inI (v3 + 6)) ∧ AZ G mm_L_law b 18 [(0, vR (-1)), (1, vR v1), (2, vR v2), (3, vI (v3 + 6))] [] h Z) ∧ ((¬ (s1 = s0)) → AZ G mm_L_law b 293 [(0, vR (-1)), (1, vR v1), (2, vR v2), (3, vI v3)] [vI 0] h Z)) : AZ G mm_L_law b 289 [(0, vR (-1)), (1, vR v1), (2, vR v2), (3, vI v3)] [vI s0, vI s1] h Z := by
  refine aw_icmp_eq (tgt := 997) dL_law_289 (by decide) (fun hc => ?_) (fun hc => ?_)
  · have k := k.1 hc
    obtain ⟨o1, k⟩ := k
    refine aw_iinc 3 dL_law_997 rfl o1 (by decide) ?_
    refine aw_goto (tgt := 18) dL_law_1000 (by decide) ?_
    exact aw_sub [1, 2, 3, 0] rfl k
  · have k := k.2 hc
    refine aw_iconst dL_law_292 ⟨by decide, by decide⟩ ?_
    exact k
set_option maxRecDepth 20000 in
theorem sg_L_law_352 {G : GG} {b : Nat × Nat} {Z : LZ} {v1 v2 v3 s0 s1 : Int} {h : Hp} (k : ((s1 = s0) → (inI (v3 + 6)) ∧ AZ G mm_L_law b 18 [(0, vR (-1)), (1, vR v1), (2, vR v2), (3, vI (v3 + 6))] [] h Z) ∧ ((¬ (s1 = s0)) → AZ G mm_L_law b 356 [(0, vR (-1)), (1, vR v1), (2, vR v2), (3, vI v3)] [vI 0] h Z)) : AZ G mm_L_law b 352 [(0, vR (-1)), (1, vR v1), (2, vR v2), (3, vI v3)] [vI s0, vI s1] h Z := by
  refine aw_icmp_eq (tgt := 997) dL_law_352 (by decide) (fun hc => ?_) (fun hc => ?_)
  · have k := k.1 hc
    obtain ⟨o1, k⟩ := k
    refine aw_iinc 3 dL_law_997 rfl o1 (by decide) ?_
    refine aw_goto (tgt := 18) dL_law_1000 (by decide) ?_
    exact aw_sub [1, 2, 3, 0] rfl k
  · have k := k.2 hc
    refine aw_iconst dL_law_355 ⟨by decide, by decide⟩ ?_
    exact k
set_option maxRecDepth 20000 in
theorem sg_L_law_385 {G : GG} {b : Nat × Nat} {Z : LZ} {v1 v2 v3 s0 s1 : Int} {h : Hp} (k : ((s1 = s0) → (inI (v3 + 6)) ∧ AZ G mm_L_law b 18 [(0, vR (-1)), (1, vR v1), (2, vR v2), (3, vI (v3 + 6))] [] h Z) ∧ ((¬ (s1 = s0)) → AZ G mm_L_law b 389 [(0, vR (-1)), (1, vR v1), (2, vR v2), (3, vI v3)] [vI 0] h Z)) : AZ G mm_L_law b 385 [(0, vR (-1)), (1, vR v1), (2, vR v2), (3, vI v3)] [vI s0, vI s1] h Z := by
  refine aw_icmp_eq (tgt := 997) dL_law_385 (by decide) (fun hc => ?_) (fun hc => ?_)
  · have k := k.1 hc
    obtain ⟨o1, k⟩ := k
    refine aw_iinc 3 dL_law_997 rfl o1 (by decide) ?_
    refine aw_goto (tgt := 18) dL_law_1000 (by decide) ?_
    exact aw_sub [1, 2, 3, 0] rfl k
  · have k := k.2 hc
    refine aw_iconst dL_law_388 ⟨by decide, by decide⟩ ?_
    exact k
set_option maxRecDepth 20000 in
theorem sg_L_law_428 {G : GG} {b : Nat × Nat} {Z : LZ} {v1 v2 v3 s0 s1 : Int} {h : Hp} (k : ((s1 = s0) → (inI (v3 + 6)) ∧ AZ G mm_L_law b 18 [(0, vR (-1)), (1, vR v1), (2, vR v2), (3, vI (v3 + 6))] [] h Z) ∧ ((¬ (s1 = s0)) → AZ G mm_L_law b 432 [(0, vR (-1)), (1, vR v1), (2, vR v2), (3, vI v3)] [vI 0] h Z)) : AZ G mm_L_law b 428 [(0, vR (-1)), (1, vR v1), (2, vR v2), (3, vI v3)] [vI s0, vI s1] h Z := by
  refine aw_icmp_eq (tgt := 997) dL_law_428 (by decide) (fun hc => ?_) (fun hc => ?_)
  · have k := k.1 hc
    obtain ⟨o1, k⟩ := k
    refine aw_iinc 3 dL_law_997 rfl o1 (by decide) ?_
    refine aw_goto (tgt := 18) dL_law_1000 (by decide) ?_
    exact aw_sub [1, 2, 3, 0] rfl k
  · have k := k.2 hc
    refine aw_iconst dL_law_431 ⟨by decide, by decide⟩ ?_
    exact k
set_option maxRecDepth 20000 in
theorem sg_L_law_451 {G : GG} {b : Nat × Nat} {Z : LZ} {v1 v2 v3 s0 s1 : Int} {h : Hp} (k : ((s1 = s0) → (inI (v3 + 6)) ∧ AZ G mm_L_law b 18 [(0, vR (-1)), (1, vR v1), (2, vR v2), (3, vI (v3 + 6))] [] h Z) ∧ ((¬ (s1 = s0)) → AZ G mm_L_law b 455 [(0, vR (-1)), (1, vR v1), (2, vR v2), (3, vI v3)] [vI 0] h Z)) : AZ G mm_L_law b 451 [(0, vR (-1)), (1, vR v1), (2, vR v2), (3, vI v3)] [vI s0, vI s1] h Z := by
  refine aw_icmp_eq (tgt := 997) dL_law_451 (by decide) (fun hc => ?_) (fun hc => ?_)
  · have k := k.1 hc
    obtain ⟨o1, k⟩ := k
    refine aw_iinc 3 dL_law_997 rfl o1 (by decide) ?_
    refine aw_goto (tgt := 18) dL_law_1000 (by decide) ?_
    exact aw_sub [1, 2, 3, 0] rfl k
  · have k := k.2 hc
    refine aw_iconst dL_law_454 ⟨by decide, by decide⟩ ?_
    exact k
set_option maxRecDepth 20000 in
theorem sg_L_law_474 {G : GG} {b : Nat × Nat} {Z : LZ} {v1 v2 v3 s0 s1 : Int} {h : Hp} (k : ((s1 = s0) → (inI (v3 + 6)) ∧ AZ G mm_L_law b 18 [(0, vR (-1)), (1, vR v1), (2, vR v2), (3, vI (v3 + 6))] [] h Z) ∧ ((¬ (s1 = s0)) → AZ G mm_L_law b 478 [(0, vR (-1)), (1, vR v1), (2, vR v2), (3, vI v3)] [vI 0] h Z)) : AZ G mm_L_law b 474 [(0, vR (-1)), (1, vR v1), (2, vR v2), (3, vI v3)] [vI s0, vI s1] h Z := by
  refine aw_icmp_eq (tgt := 997) dL_law_474 (by decide) (fun hc => ?_) (fun hc => ?_)
  · have k := k.1 hc
    obtain ⟨o1, k⟩ := k
    refine aw_iinc 3 dL_law_997 rfl o1 (by decide) ?_
    refine aw_goto (tgt := 18) dL_law_1000 (by decide) ?_
    exact aw_sub [1, 2, 3, 0] rfl k
  · have k := k.2 hc
    refine aw_iconst dL_law_477 ⟨by decide, by decide⟩ ?_
    exact k
set_option maxRecDepth 20000 in
theorem sg_L_law_507 {G : GG} {b : Nat × Nat} {Z : LZ} {v1 v2 v3 s0 s1 : Int} {h : Hp} (k : ((s1 = s0) → (inI (v3 + 6)) ∧ AZ G mm_L_law b 18 [(0, vR (-1)), (1, vR v1), (2, vR v2), (3, vI (v3 + 6))] [] h Z) ∧ ((¬ (s1 = s0)) → AZ G mm_L_law b 511 [(0, vR (-1)), (1, vR v1), (2, vR v2), (3, vI v3)] [vI 0] h Z)) : AZ G mm_L_law b 507 [(0, vR (-1)), (1, vR v1), (2, vR v2), (3, vI v3)] [vI s0, vI s1] h Z := by
  refine aw_icmp_eq (tgt := 997) dL_law_507 (by decide) (fun hc => ?_) (fun hc => ?_)
  · have k := k.1 hc
    obtain ⟨o1, k⟩ := k
    refine aw_iinc 3 dL_law_997 rfl o1 (by decide) ?_
    refine aw_goto (tgt := 18) dL_law_1000 (by decide) ?_
    exact aw_sub [1, 2, 3, 0] rfl k
  · have k := k.2 hc
    refine aw_iconst dL_law_510 ⟨by decide, by decide⟩ ?_
    exact k
set_option maxRecDepth 20000 in
theorem sg_L_law_550 {G : GG} {b : Nat × Nat} {Z : LZ} {v1 v2 v3 s0 s1 : Int} {h : Hp} (k : ((s1 = s0) → (inI (v3 + 6)) ∧ AZ G mm_L_law b 18 [(0, vR (-1)), (1, vR v1), (2, vR v2), (3, vI (v3 + 6))] [] h Z) ∧ ((¬ (s1 = s0)) → AZ G mm_L_law b 554 [(0, vR (-1)), (1, vR v1), (2, vR v2), (3, vI v3)] [vI 0] h Z)) : AZ G mm_L_law b 550 [(0, vR (-1)), (1, vR v1), (2, vR v2), (3, vI v3)] [vI s0, vI s1] h Z := by
  refine aw_icmp_eq (tgt := 997) dL_law_550 (by decide) (fun hc => ?_) (fun hc => ?_)
  · have k := k.1 hc
    obtain ⟨o1, k⟩ := k
    refine aw_iinc 3 dL_law_997 rfl o1 (by decide) ?_
    refine aw_goto (tgt := 18) dL_law_1000 (by decide) ?_
    exact aw_sub [1, 2, 3, 0] rfl k
  · have k := k.2 hc
    refine aw_iconst dL_law_553 ⟨by decide, by decide⟩ ?_
    exact k
set_option maxRecDepth 20000 in
theorem sg_L_law_583 {G : GG} {b : Nat × Nat} {Z : LZ} {v1 v2 v3 s0 s1 : Int} {h : Hp} (k : ((s1 = s0) → (inI (v3 + 6)) ∧ AZ G mm_L_law b 18 [(0, vR (-1)), (1, vR v1), (2, vR v2), (3, vI (v3 + 6))] [] h Z) ∧ ((¬ (s1 = s0)) → AZ G mm_L_law b 587 [(0, vR (-1)), (1, vR v1), (2, vR v2), (3, vI v3)] [vI 0] h Z)) : AZ G mm_L_law b 583 [(0, vR (-1)), (1, vR v1), (2, vR v2), (3, vI v3)] [vI s0, vI s1] h Z := by
  refine aw_icmp_eq (tgt := 997) dL_law_583 (by decide) (fun hc => ?_) (fun hc => ?_)
  · have k := k.1 hc
    obtain ⟨o1, k⟩ := k
    refine aw_iinc 3 dL_law_997 rfl o1 (by decide) ?_
    refine aw_goto (tgt := 18) dL_law_1000 (by decide) ?_
    exact aw_sub [1, 2, 3, 0] rfl k
  · have k := k.2 hc
    refine aw_iconst dL_law_586 ⟨by decide, by decide⟩ ?_
    exact k
set_option maxRecDepth 20000 in
theorem sg_L_law_616 {G : GG} {b : Nat × Nat} {Z : LZ} {v1 v2 v3 s0 s1 : Int} {h : Hp} (k : ((s1 = s0) → (inI (v3 + 6)) ∧ AZ G mm_L_law b 18 [(0, vR (-1)), (1, vR v1), (2, vR v2), (3, vI (v3 + 6))] [] h Z) ∧ ((¬ (s1 = s0)) → AZ G mm_L_law b 620 [(0, vR (-1)), (1, vR v1), (2, vR v2), (3, vI v3)] [vI 0] h Z)) : AZ G mm_L_law b 616 [(0, vR (-1)), (1, vR v1), (2, vR v2), (3, vI v3)] [vI s0, vI s1] h Z := by
  refine aw_icmp_eq (tgt := 997) dL_law_616 (by decide) (fun hc => ?_) (fun hc => ?_)
  · have k := k.1 hc
    obtain ⟨o1, k⟩ := k
    refine aw_iinc 3 dL_law_997 rfl o1 (by decide) ?_
    refine aw_goto (tgt := 18) dL_law_1000 (by decide) ?_
    exact aw_sub [1, 2, 3, 0] rfl k
  · have k := k.2 hc
    refine aw_iconst dL_law_619 ⟨by decide, by decide⟩ ?_
    exact k
set_option maxRecDepth 20000 in
theorem sg_L_law_649 {G : GG} {b : Nat × Nat} {Z : LZ} {v1 v2 v3 s0 s1 : Int} {h : Hp} (k : ((s1 = s0) → (inI (v3 + 6)) ∧ AZ G mm_L_law b 18 [(0, vR (-1)), (1, vR v1), (2, vR v2), (3, vI (v3 + 6))] [] h Z) ∧ ((¬ (s1 = s0)) → AZ G mm_L_law b 653 [(0, vR (-1)), (1, vR v1), (2, vR v2), (3, vI v3)] [vI 0] h Z)) : AZ G mm_L_law b 649 [(0, vR (-1)), (1, vR v1), (2, vR v2), (3, vI v3)] [vI s0, vI s1] h Z := by
  refine aw_icmp_eq (tgt := 997) dL_law_649 (by decide) (fun hc => ?_) (fun hc => ?_)
  · have k := k.1 hc
    obtain ⟨o1, k⟩ := k
    refine aw_iinc 3 dL_law_997 rfl o1 (by decide) ?_
    refine aw_goto (tgt := 18) dL_law_1000 (by decide) ?_
    exact aw_sub [1, 2, 3, 0] rfl k
  · have k := k.2 hc
    refine aw_iconst dL_law_652 ⟨by decide, by decide⟩ ?_
    exact k
set_option maxRecDepth 20000 in
theorem sg_L_law_692 {G : GG} {b : Nat × Nat} {Z : LZ} {v1 v2 v3 s0 s1 : Int} {h : Hp} (k : ((s1 = s0) → (inI (v3 + 6)) ∧ AZ G mm_L_law b 18 [(0, vR (-1)), (1, vR v1), (2, vR v2), (3, vI (v3 + 6))] [] h Z) ∧ ((¬ (s1 = s0)) → AZ G mm_L_law b 696 [(0, vR (-1)), (1, vR v1), (2, vR v2), (3, vI v3)] [vI 0] h Z)) : AZ G mm_L_law b 692 [(0, vR (-1)), (1, vR v1), (2, vR v2), (3, vI v3)] [vI s0, vI s1] h Z := by
  refine aw_icmp_eq (tgt := 997) dL_law_692 (by decide) (fun hc => ?_) (fun hc => ?_)
  · have k := k.1 hc
    obtain ⟨o1, k⟩ := k
    refine aw_iinc 3 dL_law_997 rfl o1 (by decide) ?_
    refine aw_goto (tgt := 18) dL_law_1000 (by decide) ?_
    exact aw_sub [1, 2, 3, 0] rfl k
  · have k := k.2 hc
    refine aw_iconst dL_law_695 ⟨by decide, by decide⟩ ?_
    exact k
set_option maxRecDepth 20000 in
theorem sg_L_law_745 {G : GG} {b : Nat × Nat} {Z : LZ} {v1 v2 v3 s0 s1 : Int} {h : Hp} (k : ((s1 = s0) → (inI (v3 + 6)) ∧ AZ G mm_L_law b 18 [(0, vR (-1)), (1, vR v1), (2, vR v2), (3, vI (v3 + 6))] [] h Z) ∧ ((¬ (s1 = s0)) → AZ G mm_L_law b 749 [(0, vR (-1)), (1, vR v1), (2, vR v2), (3, vI v3)] [vI 0] h Z)) : AZ G mm_L_law b 745 [(0, vR (-1)), (1, vR v1), (2, vR v2), (3, vI v3)] [vI s0, vI s1] h Z := by
  refine aw_icmp_eq (tgt := 997) dL_law_745 (by decide) (fun hc => ?_) (fun hc => ?_)
  · have k := k.1 hc
    obtain ⟨o1, k⟩ := k
    refine aw_iinc 3 dL_law_997 rfl o1 (by decide) ?_
    refine aw_goto (tgt := 18) dL_law_1000 (by decide) ?_
    exact aw_sub [1, 2, 3, 0] rfl k
  · have k := k.2 hc
    refine aw_iconst dL_law_748 ⟨by decide, by decide⟩ ?_
    exact k
set_option maxRecDepth 20000 in
theorem sg_L_law_778 {G : GG} {b : Nat × Nat} {Z : LZ} {v1 v2 v3 s0 s1 : Int} {h : Hp} (k : ((s1 = s0) → (inI (v3 + 6)) ∧ AZ G mm_L_law b 18 [(0, vR (-1)), (1, vR v1), (2, vR v2), (3, vI (v3 + 6))] [] h Z) ∧ ((¬ (s1 = s0)) → AZ G mm_L_law b 782 [(0, vR (-1)), (1, vR v1), (2, vR v2), (3, vI v3)] [vI 0] h Z)) : AZ G mm_L_law b 778 [(0, vR (-1)), (1, vR v1), (2, vR v2), (3, vI v3)] [vI s0, vI s1] h Z := by
  refine aw_icmp_eq (tgt := 997) dL_law_778 (by decide) (fun hc => ?_) (fun hc => ?_)
  · have k := k.1 hc
    obtain ⟨o1, k⟩ := k
    refine aw_iinc 3 dL_law_997 rfl o1 (by decide) ?_
    refine aw_goto (tgt := 18) dL_law_1000 (by decide) ?_
    exact aw_sub [1, 2, 3, 0] rfl k
  · have k := k.2 hc
    refine aw_iconst dL_law_781 ⟨by decide, by decide⟩ ?_
    exact k
set_option maxRecDepth 20000 in
theorem sg_L_law_801 {G : GG} {b : Nat × Nat} {Z : LZ} {v1 v2 v3 s0 s1 : Int} {h : Hp} (k : ((s1 = s0) → (inI (v3 + 6)) ∧ AZ G mm_L_law b 18 [(0, vR (-1)), (1, vR v1), (2, vR v2), (3, vI (v3 + 6))] [] h Z) ∧ ((¬ (s1 = s0)) → AZ G mm_L_law b 805 [(0, vR (-1)), (1, vR v1), (2, vR v2), (3, vI v3)] [vI 0] h Z)) : AZ G mm_L_law b 801 [(0, vR (-1)), (1, vR v1), (2, vR v2), (3, vI v3)] [vI s0, vI s1] h Z := by
  refine aw_icmp_eq (tgt := 997) dL_law_801 (by decide) (fun hc => ?_) (fun hc => ?_)
  · have k := k.1 hc
    obtain ⟨o1, k⟩ := k
    refine aw_iinc 3 dL_law_997 rfl o1 (by decide) ?_
    refine aw_goto (tgt := 18) dL_law_1000 (by decide) ?_
    exact aw_sub [1, 2, 3, 0] rfl k
  · have k := k.2 hc
    refine aw_iconst dL_law_804 ⟨by decide, by decide⟩ ?_
    exact k
set_option maxRecDepth 20000 in
theorem sg_L_law_824 {G : GG} {b : Nat × Nat} {Z : LZ} {v1 v2 v3 s0 s1 : Int} {h : Hp} (k : ((s1 = s0) → (inI (v3 + 6)) ∧ AZ G mm_L_law b 18 [(0, vR (-1)), (1, vR v1), (2, vR v2), (3, vI (v3 + 6))] [] h Z) ∧ ((¬ (s1 = s0)) → AZ G mm_L_law b 828 [(0, vR (-1)), (1, vR v1), (2, vR v2), (3, vI v3)] [vI 0] h Z)) : AZ G mm_L_law b 824 [(0, vR (-1)), (1, vR v1), (2, vR v2), (3, vI v3)] [vI s0, vI s1] h Z := by
  refine aw_icmp_eq (tgt := 997) dL_law_824 (by decide) (fun hc => ?_) (fun hc => ?_)
  · have k := k.1 hc
    obtain ⟨o1, k⟩ := k
    refine aw_iinc 3 dL_law_997 rfl o1 (by decide) ?_
    refine aw_goto (tgt := 18) dL_law_1000 (by decide) ?_
    exact aw_sub [1, 2, 3, 0] rfl k
  · have k := k.2 hc
    refine aw_iconst dL_law_827 ⟨by decide, by decide⟩ ?_
    exact k
set_option maxRecDepth 20000 in
theorem sg_L_law_847 {G : GG} {b : Nat × Nat} {Z : LZ} {v1 v2 v3 s0 s1 : Int} {h : Hp} (k : ((s1 = s0) → (inI (v3 + 6)) ∧ AZ G mm_L_law b 18 [(0, vR (-1)), (1, vR v1), (2, vR v2), (3, vI (v3 + 6))] [] h Z) ∧ ((¬ (s1 = s0)) → AZ G mm_L_law b 851 [(0, vR (-1)), (1, vR v1), (2, vR v2), (3, vI v3)] [vI 0] h Z)) : AZ G mm_L_law b 847 [(0, vR (-1)), (1, vR v1), (2, vR v2), (3, vI v3)] [vI s0, vI s1] h Z := by
  refine aw_icmp_eq (tgt := 997) dL_law_847 (by decide) (fun hc => ?_) (fun hc => ?_)
  · have k := k.1 hc
    obtain ⟨o1, k⟩ := k
    refine aw_iinc 3 dL_law_997 rfl o1 (by decide) ?_
    refine aw_goto (tgt := 18) dL_law_1000 (by decide) ?_
    exact aw_sub [1, 2, 3, 0] rfl k
  · have k := k.2 hc
    refine aw_iconst dL_law_850 ⟨by decide, by decide⟩ ?_
    exact k
set_option maxRecDepth 20000 in
theorem sg_L_law_870 {G : GG} {b : Nat × Nat} {Z : LZ} {v1 v2 v3 s0 s1 : Int} {h : Hp} (k : ((s1 = s0) → (inI (v3 + 6)) ∧ AZ G mm_L_law b 18 [(0, vR (-1)), (1, vR v1), (2, vR v2), (3, vI (v3 + 6))] [] h Z) ∧ ((¬ (s1 = s0)) → AZ G mm_L_law b 874 [(0, vR (-1)), (1, vR v1), (2, vR v2), (3, vI v3)] [vI 0] h Z)) : AZ G mm_L_law b 870 [(0, vR (-1)), (1, vR v1), (2, vR v2), (3, vI v3)] [vI s0, vI s1] h Z := by
  refine aw_icmp_eq (tgt := 997) dL_law_870 (by decide) (fun hc => ?_) (fun hc => ?_)
  · have k := k.1 hc
    obtain ⟨o1, k⟩ := k
    refine aw_iinc 3 dL_law_997 rfl o1 (by decide) ?_
    refine aw_goto (tgt := 18) dL_law_1000 (by decide) ?_
    exact aw_sub [1, 2, 3, 0] rfl k
  · have k := k.2 hc
    refine aw_iconst dL_law_873 ⟨by decide, by decide⟩ ?_
    exact k
set_option maxRecDepth 20000 in
theorem sg_L_law_903 {G : GG} {b : Nat × Nat} {Z : LZ} {v1 v2 v3 s0 s1 : Int} {h : Hp} (k : ((s1 = s0) → (inI (v3 + 6)) ∧ AZ G mm_L_law b 18 [(0, vR (-1)), (1, vR v1), (2, vR v2), (3, vI (v3 + 6))] [] h Z) ∧ ((¬ (s1 = s0)) → AZ G mm_L_law b 907 [(0, vR (-1)), (1, vR v1), (2, vR v2), (3, vI v3)] [vI 0] h Z)) : AZ G mm_L_law b 903 [(0, vR (-1)), (1, vR v1), (2, vR v2), (3, vI v3)] [vI s0, vI s1] h Z := by
  refine aw_icmp_eq (tgt := 997) dL_law_903 (by decide) (fun hc => ?_) (fun hc => ?_)
  · have k := k.1 hc
    obtain ⟨o1, k⟩ := k
    refine aw_iinc 3 dL_law_997 rfl o1 (by decide) ?_
    refine aw_goto (tgt := 18) dL_law_1000 (by decide) ?_
    exact aw_sub [1, 2, 3, 0] rfl k
  · have k := k.2 hc
    refine aw_iconst dL_law_906 ⟨by decide, by decide⟩ ?_
    exact k
set_option maxRecDepth 20000 in
theorem sg_L_law_946 {G : GG} {b : Nat × Nat} {Z : LZ} {v1 v2 v3 s0 s1 : Int} {h : Hp} (k : ((s1 = s0) → (inI (v3 + 6)) ∧ AZ G mm_L_law b 18 [(0, vR (-1)), (1, vR v1), (2, vR v2), (3, vI (v3 + 6))] [] h Z) ∧ ((¬ (s1 = s0)) → AZ G mm_L_law b 950 [(0, vR (-1)), (1, vR v1), (2, vR v2), (3, vI v3)] [vI 0] h Z)) : AZ G mm_L_law b 946 [(0, vR (-1)), (1, vR v1), (2, vR v2), (3, vI v3)] [vI s0, vI s1] h Z := by
  refine aw_icmp_eq (tgt := 997) dL_law_946 (by decide) (fun hc => ?_) (fun hc => ?_)
  · have k := k.1 hc
    obtain ⟨o1, k⟩ := k
    refine aw_iinc 3 dL_law_997 rfl o1 (by decide) ?_
    refine aw_goto (tgt := 18) dL_law_1000 (by decide) ?_
    exact aw_sub [1, 2, 3, 0] rfl k
  · have k := k.2 hc
    refine aw_iconst dL_law_949 ⟨by decide, by decide⟩ ?_
    exact k
set_option maxRecDepth 20000 in
theorem sg_L_law_969 {G : GG} {b : Nat × Nat} {Z : LZ} {v1 v2 v3 s0 s1 : Int} {h : Hp} (k : ((s1 = s0) → (inI (v3 + 6)) ∧ AZ G mm_L_law b 18 [(0, vR (-1)), (1, vR v1), (2, vR v2), (3, vI (v3 + 6))] [] h Z) ∧ ((¬ (s1 = s0)) → AZ G mm_L_law b 973 [(0, vR (-1)), (1, vR v1), (2, vR v2), (3, vI v3)] [vI 0] h Z)) : AZ G mm_L_law b 969 [(0, vR (-1)), (1, vR v1), (2, vR v2), (3, vI v3)] [vI s0, vI s1] h Z := by
  refine aw_icmp_eq (tgt := 997) dL_law_969 (by decide) (fun hc => ?_) (fun hc => ?_)
  · have k := k.1 hc
    obtain ⟨o1, k⟩ := k
    refine aw_iinc 3 dL_law_997 rfl o1 (by decide) ?_
    refine aw_goto (tgt := 18) dL_law_1000 (by decide) ?_
    exact aw_sub [1, 2, 3, 0] rfl k
  · have k := k.2 hc
    refine aw_iconst dL_law_972 ⟨by decide, by decide⟩ ?_
    exact k
set_option maxRecDepth 20000 in
theorem sg_L_law_992 {G : GG} {b : Nat × Nat} {Z : LZ} {v1 v2 v3 s0 s1 : Int} {h : Hp} (k : ((s1 = s0) → (inI (v3 + 6)) ∧ AZ G mm_L_law b 18 [(0, vR (-1)), (1, vR v1), (2, vR v2), (3, vI (v3 + 6))] [] h Z) ∧ ((¬ (s1 = s0)) → AZ G mm_L_law b 996 [(0, vR (-1)), (1, vR v1), (2, vR v2), (3, vI v3)] [vI 0] h Z)) : AZ G mm_L_law b 992 [(0, vR (-1)), (1, vR v1), (2, vR v2), (3, vI v3)] [vI s0, vI s1] h Z := by
  refine aw_icmp_eq (tgt := 997) dL_law_992 (by decide) (fun hc => ?_) (fun hc => ?_)
  · have k := k.1 hc
    obtain ⟨o1, k⟩ := k
    refine aw_iinc 3 dL_law_997 rfl o1 (by decide) ?_
    refine aw_goto (tgt := 18) dL_law_1000 (by decide) ?_
    exact aw_sub [1, 2, 3, 0] rfl k
  · have k := k.2 hc
    refine aw_iconst dL_law_995 ⟨by decide, by decide⟩ ?_
    exact k
