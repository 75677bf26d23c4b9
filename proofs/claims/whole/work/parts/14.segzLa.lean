/-! printed by writeseg.py: the law -/
set_option maxRecDepth 20000 in
theorem sg_L_law_0 {G : GG} {b : Nat × Nat} {Z : LZ} {h : Hp} (k : (inI (h 0 0 + 1)) ∧ (1 ≤ b.1) ∧ (6 ≤ b.2) ∧ ∀ a5, a5 = h 0 0 + 1 → ∀ h1, h1 = nw h 10 0 → (87 ≤ b.1 - 1) ∧ (808 ≤ b.2 - 6) ∧ Runs G mm_X9_init [vR a5] h1 (fun r h' => AZ G mm_L_law (b.1 - 1 - 87, b.2 - 6 - 808) 7 [(0, vR (-1))] (r.toList ++ [vR a5]) h' Z)) : AZ G mm_L_law b 0 [(0, vR (-1))] [] h Z := by
  refine aw_use (fun _ _ oh1 => ?_)
  obtain ⟨o2, k⟩ := k
  obtain ⟨o3, k⟩ := k
  obtain ⟨o4, k⟩ := k
  refine aw_new 9 nl_L_7 dL_law_0 o2 o3 o4 ?_
  refine aw_hq (fun a5 e6 h1 e7 => ?_)
  have k := k a5 e6 h1 e7
  have q8 := sh_f e7 e6
  refine aw_dup dL_law_3 rfl ?_
  obtain ⟨o9, k⟩ := k
  obtain ⟨o10, k⟩ := k
  refine aw_use (fun _ _ oz11 => ?_)
  refine aw_callI (M' := mm_X9_init) [] [vR a5] lk_L_9 dL_law_4 rfl (Nat.le_of_ble_eq_true rfl) ⟨by decide, by decide, o9, o10⟩ (nz_s oz11 q8 (by decide)) ?_
  exact k
set_option maxRecDepth 20000 in
theorem sg_L_law_7 {G : GG} {b : Nat × Nat} {Z : LZ} {s0 : Int} {h : Hp} (k : (inI (h 0 0 + 1)) ∧ (1 ≤ b.1) ∧ (39 ≤ b.2) ∧ ∀ a5, a5 = h 0 0 + 1 → ∀ h1, h1 = nw h 11 0 → (28 ≤ b.1 - 1) ∧ (6754 ≤ b.2 - 39) ∧ Runs G mm_X10_init [vR a5] h1 (fun r h' => AZ G mm_L_law (b.1 - 1 - 28, b.2 - 39 - 6754) 15 [(0, vR (-1)), (1, vR s0)] (r.toList ++ [vR a5]) h' Z)) : AZ G mm_L_law b 7 [(0, vR (-1))] [vR s0] h Z := by
  refine aw_astore_n dL_law_7 rfl (by decide) ?_
  refine aw_use (fun _ _ oh1 => ?_)
  obtain ⟨o2, k⟩ := k
  obtain ⟨o3, k⟩ := k
  obtain ⟨o4, k⟩ := k
  refine aw_new 10 nl_L_10 dL_law_8 o2 o3 o4 ?_
  refine aw_hq (fun a5 e6 h1 e7 => ?_)
  have k := k a5 e6 h1 e7
  have q8 := sh_f e7 e6
  refine aw_dup dL_law_11 rfl ?_
  obtain ⟨o9, k⟩ := k
  obtain ⟨o10, k⟩ := k
  refine aw_use (fun _ _ oz11 => ?_)
  refine aw_callI (M' := mm_X10_init) [] [vR a5] lk_L_12 dL_law_12 rfl (Nat.le_of_ble_eq_true rfl) ⟨by decide, by decide, o9, o10⟩ (nz_s oz11 q8 (by decide)) ?_
  exact k.mono (fun _ _ z => aw_sub [1, 0] rfl z)
set_option maxRecDepth 20000 in
theorem sg_L_law_15 {G : GG} {b : Nat × Nat} {Z : LZ} {v1 s0 : Int} {h : Hp} (k : AZ G mm_L_law b 18 [(0, vR (-1)), (1, vR v1), (2, vR s0), (3, vI 0)] [] h Z) : AZ G mm_L_law b 15 [(0, vR (-1)), (1, vR v1)] [vR s0] h Z := by
  refine aw_astore_n dL_law_15 rfl (by decide) ?_
  refine aw_iconst dL_law_16 ⟨by decide, by decide⟩ ?_
  refine aw_istore_n dL_law_17 rfl (by decide) ?_
  exact aw_sub [2, 3, 1, 0] rfl k
set_option maxRecDepth 20000 in
theorem sg_L_law_18 {G : GG} {b : Nat × Nat} {Z : LZ} {v1 v2 v3 : Int} {h : Hp} (k : (G.2.2.2.2.2.1 < 2147483648) ∧ (inI ((sL G) - 6)) ∧ ((((sL G) - 6) < v3) → AZ G mm_L_law b 1004 [(0, vR (-1)), (1, vR v1), (2, vR v2), (3, vI v3)] [vI 1] h Z) ∧ ((¬ (((sL G) - 6) < v3)) → (0 ≤ v3) ∧ (v3 < sL G) ∧ (((iAnd (sX G v3) 31) = 0) → (inI (v3 + 1)) ∧ (0 ≤ (v3 + 1)) ∧ ((v3 + 1) < sL G) ∧ (h v1 (-1) = 10) ∧ Runs G mm_X9_write [vR v1, vI (sX G (v3 + 1))] h (fun r h' => AZ G mm_L_law b 165 [(0, vR (-1)), (1, vR v1), (2, vR v2), (3, vI v3)] (r.toList ++ []) h' Z)) ∧ (((iAnd (sX G v3) 31) = 1) → (h v1 (-1) = 10) ∧ Runs G mm_X9_erase [vR v1] h (fun r h' => AZ G mm_L_law b 183 [(0, vR (-1)), (1, vR v1), (2, vR v2), (3, vI v3)] (r.toList ++ []) h' Z)) ∧ (((iAnd (sX G v3) 31) = 2) → (h v1 (-1) = 10) ∧ Runs G mm_X9_fault [vR v1] h (fun r h' => AZ G mm_L_law b 196 [(0, vR (-1)), (1, vR v1), (2, vR v2), (3, vI v3)] (r.toList ++ []) h' Z)) ∧ (((iAnd (sX G v3) 31) = 3) → (h v1 (-1) = 10) ∧ Runs G mm_X9_tell [vR v1] h (fun r h' => AZ G mm_L_law b 209 [(0, vR (-1)), (1, vR v1), (2, vR v2), (3, vI v3)] (r.toList ++ []) h' Z)) ∧ (((iAnd (sX G v3) 31) = 4) → (inI (v3 + 1)) ∧ (0 ≤ (v3 + 1)) ∧ ((v3 + 1) < sL G) ∧ (inI (v3 + 2)) ∧ (0 ≤ (v3 + 2)) ∧ ((v3 + 2) < sL G) ∧ (h v1 (-1) = 10) ∧ Runs G mm_X9_cell [vR v1, vI (sX G (v3 + 1)), vI (sX G (v3 + 2))] h (fun r h' => AZ G mm_L_law b 232 [(0, vR (-1)), (1, vR v1), (2, vR v2), (3, vI v3)] (r.toList ++ []) h' Z)) ∧ (((iAnd (sX G v3) 31) = 5) → (inI (v3 + 1)) ∧ (0 ≤ (v3 + 1)) ∧ ((v3 + 1) < sL G) ∧ (inI (v3 + 2)) ∧ (0 ≤ (v3 + 2)) ∧ ((v3 + 2) < sL G) ∧ (inI (v3 + 3)) ∧ (0 ≤ (v3 + 3)) ∧ ((v3 + 3) < sL G) ∧ (h v1 (-1) = 10) ∧ Runs G mm_X9_put [vR v1, vI (sX G (v3 + 1)), vI (sX G (v3 + 2)), vI (sX G (v3 + 3))] h (fun r h' => AZ G mm_L_law b 270 [(0, vR (-1)), (1, vR v1), (2, vR v2), (3, vI v3)] (r.toList ++ []) h' Z)) ∧ (((iAnd (sX G v3) 31) = 6) → (inI (v3 + 1)) ∧ (0 ≤ (v3 + 1)) ∧ ((v3 + 1) < sL G) ∧ (inI (v3 + 2)) ∧ (0 ≤ (v3 + 2)) ∧ ((v3 + 2) < sL G) ∧ (inI (v3 + 3)) ∧ (0 ≤ (v3 + 3)) ∧ ((v3 + 3) < sL G) ∧ (inI (v3 + 4)) ∧ (0 ≤ (v3 + 4)) ∧ ((v3 + 4) < sL G) ∧ (inI (v3 + 5)) ∧ (0 ≤ (v3 + 5)) ∧ ((v3 + 5) < sL G) ∧ (h v1 (-1) = 10) ∧ Runs G mm_X9_key [vR v1, vI (sX G (v3 + 1)), vI (sX G (v3 + 2)), vI (sX G (v3 + 3)), vI (sX G (v3 + 4)), vI (sX G (v3 + 5))] h (fun r h' => AZ G mm_L_law b 323 [(0, vR (-1)), (1, vR v1), (2, vR v2), (3, vI v3)] (r.toList ++ []) h' Z)) ∧ (((iAnd (sX G v3) 31) = 7) → (inI (v3 + 1)) ∧ (0 ≤ (v3 + 1)) ∧ ((v3 + 1) < sL G) ∧ (inI (v3 + 2)) ∧ (0 ≤ (v3 + 2)) ∧ ((v3 + 2) < sL G) ∧ (h v1 (-1) = 10) ∧ Runs G mm_X9_lock [vR v1, vI (sX G (v3 + 1)), vI (sX G (v3 + 2))] h (fun r h' => AZ G mm_L_law b 371 [(0, vR (-1)), (1, vR v1), (2, vR v2), (3, vI v3)] (r.toList ++ []) h' Z)) ∧ (((iAnd (sX G v3) 31) = 8) → (inI (v3 + 1)) ∧ (0 ≤ (v3 + 1)) ∧ ((v3 + 1) < sL G) ∧ (inI (v3 + 2)) ∧ (0 ≤ (v3 + 2)) ∧ ((v3 + 2) < sL G) ∧ (inI (v3 + 3)) ∧ (0 ≤ (v3 + 3)) ∧ ((v3 + 3) < sL G) ∧ (h v1 (-1) = 10) ∧ Runs G mm_X9_door [vR v1, vI (sX G (v3 + 1)), vI (sX G (v3 + 2)), vI (sX G (v3 + 3))] h (fun r h' => AZ G mm_L_law b 409 [(0, vR (-1)), (1, vR v1), (2, vR v2), (3, vI v3)] (r.toList ++ []) h' Z)) ∧ (((iAnd (sX G v3) 31) = 9) → (inI (v3 + 1)) ∧ (0 ≤ (v3 + 1)) ∧ ((v3 + 1) < sL G) ∧ (h v1 (-1) = 10) ∧ Runs G mm_X9_join [vR v1, vI (sX G (v3 + 1))] h (fun r h' => AZ G mm_L_law b 442 [(0, vR (-1)), (1, vR v1), (2, vR v2), (3, vI v3)] (r.toList ++ []) h' Z)) ∧ (((iAnd (sX G v3) 31) = 10) → (inI (v3 + 1)) ∧ (0 ≤ (v3 + 1)) ∧ ((v3 + 1) < sL G) ∧ (7 ≤ b.1) ∧ (42 ≤ b.2) ∧ (h v1 (-1) = 10) ∧ Runs G mm_X9_tear [vR v1, vI (sX G (v3 + 1))] h (fun r h' => AZ G mm_L_law (b.1 - 7, b.2 - 42) 465 [(0, vR (-1)), (1, vR v1), (2, vR v2), (3, vI v3)] (r.toList ++ []) h' Z)) ∧ (((iAnd (sX G v3) 31) = 11) → (inI (v3 + 1)) ∧ (0 ≤ (v3 + 1)) ∧ ((v3 + 1) < sL G) ∧ (inI (v3 + 2)) ∧ (0 ≤ (v3 + 2)) ∧ ((v3 + 2) < sL G) ∧ (h v1 (-1) = 10) ∧ Runs G mm_X9_delay [vR v1, vI (sX G (v3 + 1)), vI (sX G (v3 + 2))] h (fun r h' => AZ G mm_L_law b 493 [(0, vR (-1)), (1, vR v1), (2, vR v2), (3, vI v3)] (r.toList ++ []) h' Z)) ∧ (((iAnd (sX G v3) 31) = 12) → (inI (v3 + 1)) ∧ (0 ≤ (v3 + 1)) ∧ ((v3 + 1) < sL G) ∧ (inI (v3 + 2)) ∧ (0 ≤ (v3 + 2)) ∧ ((v3 + 2) < sL G) ∧ (inI (v3 + 3)) ∧ (0 ≤ (v3 + 3)) ∧ ((v3 + 3) < sL G) ∧ (h v1 (-1) = 10) ∧ Runs G mm_X9_aim [vR v1, vI (sX G (v3 + 1)), vI (sX G (v3 + 2)), vI (sX G (v3 + 3))] h (fun r h' => AZ G mm_L_law b 531 [(0, vR (-1)), (1, vR v1), (2, vR v2), (3, vI v3)] (r.toList ++ []) h' Z)) ∧ (((iAnd (sX G v3) 31) = 13) → (inI (v3 + 1)) ∧ (0 ≤ (v3 + 1)) ∧ ((v3 + 1) < sL G) ∧ (inI (v3 + 2)) ∧ (0 ≤ (v3 + 2)) ∧ ((v3 + 2) < sL G) ∧ (h v1 (-1) = 10) ∧ Runs G mm_X9_send [vR v1, vI (sX G (v3 + 1)), vI (sX G (v3 + 2))] h (fun r h' => AZ G mm_L_law b 569 [(0, vR (-1)), (1, vR v1), (2, vR v2), (3, vI v3)] (r.toList ++ []) h' Z)) ∧ (((iAnd (sX G v3) 31) = 14) → (inI (v3 + 1)) ∧ (0 ≤ (v3 + 1)) ∧ ((v3 + 1) < sL G) ∧ (inI (v3 + 2)) ∧ (0 ≤ (v3 + 2)) ∧ ((v3 + 2) < sL G) ∧ (h v1 (-1) = 10) ∧ Runs G mm_X9_store [vR v1, vI (sX G (v3 + 1)), vI (sX G (v3 + 2))] h (fun r h' => AZ G mm_L_law b 602 [(0, vR (-1)), (1, vR v1), (2, vR v2), (3, vI v3)] (r.toList ++ []) h' Z)) ∧ (((iAnd (sX G v3) 31) = 15) → (inI (v3 + 1)) ∧ (0 ≤ (v3 + 1)) ∧ ((v3 + 1) < sL G) ∧ (inI (v3 + 2)) ∧ (0 ≤ (v3 + 2)) ∧ ((v3 + 2) < sL G) ∧ (h v1 (-1) = 10) ∧ Runs G mm_X9_read [vR v1, vI (sX G (v3 + 1)), vI (sX G (v3 + 2))] h (fun r h' => AZ G mm_L_law b 635 [(0, vR (-1)), (1, vR v1), (2, vR v2), (3, vI v3)] (r.toList ++ []) h' Z)) ∧ (((iAnd (sX G v3) 31) = 16) → (inI (v3 + 1)) ∧ (0 ≤ (v3 + 1)) ∧ ((v3 + 1) < sL G) ∧ (inI (v3 + 2)) ∧ (0 ≤ (v3 + 2)) ∧ ((v3 + 2) < sL G) ∧ (inI (v3 + 3)) ∧ (0 ≤ (v3 + 3)) ∧ ((v3 + 3) < sL G) ∧ (h v1 (-1) = 10) ∧ Runs G mm_X9_add [vR v1, vI (sX G (v3 + 1)), vI (sX G (v3 + 2)), vI (sX G (v3 + 3))] h (fun r h' => AZ G mm_L_law b 673 [(0, vR (-1)), (1, vR v1), (2, vR v2), (3, vI v3)] (r.toList ++ []) h' Z)) ∧ (((iAnd (sX G v3) 31) = 17) → (inI (v3 + 1)) ∧ (0 ≤ (v3 + 1)) ∧ ((v3 + 1) < sL G) ∧ (inI (v3 + 2)) ∧ (0 ≤ (v3 + 2)) ∧ ((v3 + 2) < sL G) ∧ (inI (v3 + 3)) ∧ (0 ≤ (v3 + 3)) ∧ ((v3 + 3) < sL G) ∧ (inI (v3 + 4)) ∧ (0 ≤ (v3 + 4)) ∧ ((v3 + 4) < sL G) ∧ (h v1 (-1) = 10) ∧ Runs G mm_X9_swap [vR v1, vI (sX G (v3 + 1)), vI (sX G (v3 + 2)), vI (sX G (v3 + 3)), vI (sX G (v3 + 4))] h (fun r h' => AZ G mm_L_law b 721 [(0, vR (-1)), (1, vR v1), (2, vR v2), (3, vI v3)] (r.toList ++ []) h' Z)) ∧ (((iAnd (sX G v3) 31) = 18) → (inI (v3 + 1)) ∧ (0 ≤ (v3 + 1)) ∧ ((v3 + 1) < sL G) ∧ (inI (v3 + 2)) ∧ (0 ≤ (v3 + 2)) ∧ ((v3 + 2) < sL G) ∧ (h v1 (-1) = 10) ∧ Runs G mm_X9_receive [vR v1, vI (sX G (v3 + 1)), vI (sX G (v3 + 2))] h (fun r h' => AZ G mm_L_law b 764 [(0, vR (-1)), (1, vR v1), (2, vR v2), (3, vI v3)] (r.toList ++ []) h' Z)) ∧ (((iAnd (sX G v3) 31) = 19) → (inI (v3 + 1)) ∧ (0 ≤ (v3 + 1)) ∧ ((v3 + 1) < sL G) ∧ (12 ≤ b.1) ∧ (72 ≤ b.2) ∧ (h v1 (-1) = 10) ∧ Runs G mm_X9_step [vR v1, vI (sX G (v3 + 1))] h (fun r h' => AZ G mm_L_law (b.1 - 12, b.2 - 72) 792 [(0, vR (-1)), (1, vR v1), (2, vR v2), (3, vI v3)] (r.toList ++ []) h' Z)) ∧ (((iAnd (sX G v3) 31) = 20) → (inI (v3 + 1)) ∧ (0 ≤ (v3 + 1)) ∧ ((v3 + 1) < sL G) ∧ (8 ≤ b.1) ∧ (48 ≤ b.2) ∧ (h v1 (-1) = 10) ∧ Runs G mm_X9_tick [vR v1, vI (sX G (v3 + 1))] h (fun r h' => AZ G mm_L_law (b.1 - 8, b.2 - 48) 815 [(0, vR (-1)), (1, vR v1), (2, vR v2), (3, vI v3)] (r.toList ++ []) h' Z)) ∧ (((iAnd (sX G v3) 31) = 21) → (inI (v3 + 1)) ∧ (0 ≤ (v3 + 1)) ∧ ((v3 + 1) < sL G) ∧ (h v1 (-1) = 10) ∧ Runs G mm_X9_take [vR v1, vI (sX G (v3 + 1))] h (fun r h' => AZ G mm_L_law b 838 [(0, vR (-1)), (1, vR v1), (2, vR v2), (3, vI v3)] (r.toList ++ []) h' Z)) ∧ (((iAnd (sX G v3) 31) = 22) → (inI (v3 + 1)) ∧ (0 ≤ (v3 + 1)) ∧ ((v3 + 1) < sL G) ∧ (h v1 (-1) = 10) ∧ Runs G mm_X9_taken [vR v1, vI (sX G (v3 + 1))] h (fun r h' => AZ G mm_L_law b 861 [(0, vR (-1)), (1, vR v1), (2, vR v2), (3, vI v3)] (r.toList ++ []) h' Z)) ∧ (((iAnd (sX G v3) 31) = 23) → (inI (v3 + 1)) ∧ (0 ≤ (v3 + 1)) ∧ ((v3 + 1) < sL G) ∧ (inI (v3 + 2)) ∧ (0 ≤ (v3 + 2)) ∧ ((v3 + 2) < sL G) ∧ (h v1 (-1) = 10) ∧ Runs G mm_X9_end [vR v1, vI (sX G (v3 + 1)), vI (sX G (v3 + 2))] h (fun r h' => AZ G mm_L_law b 889 [(0, vR (-1)), (1, vR v1), (2, vR v2), (3, vI v3)] (r.toList ++ []) h' Z)) ∧ (((iAnd (sX G v3) 31) = 24) → (inI (v3 + 1)) ∧ (0 ≤ (v3 + 1)) ∧ ((v3 + 1) < sL G) ∧ (inI (v3 + 2)) ∧ (0 ≤ (v3 + 2)) ∧ ((v3 + 2) < sL G) ∧ (inI (v3 + 3)) ∧ (0 ≤ (v3 + 3)) ∧ ((v3 + 3) < sL G) ∧ (h v1 (-1) = 10) ∧ Runs G mm_X9_open [vR v1, vI (sX G (v3 + 1)), vI (sX G (v3 + 2)), vI (sX G (v3 + 3))] h (fun r h' => AZ G mm_L_law b 927 [(0, vR (-1)), (1, vR v1), (2, vR v2), (3, vI v3)] (r.toList ++ []) h' Z)) ∧ (((iAnd (sX G v3) 31) = 25) → (inI (v3 + 1)) ∧ (0 ≤ (v3 + 1)) ∧ ((v3 + 1) < sL G) ∧ (h v1 (-1) = 10) ∧ Runs G mm_X9_packet [vR v1, vI (sX G (v3 + 1))] h (fun r h' => AZ G mm_L_law b 960 [(0, vR (-1)), (1, vR v1), (2, vR v2), (3, vI v3)] (r.toList ++ []) h' Z)) ∧ (((iAnd (sX G v3) 31) = 26) → (inI (v3 + 1)) ∧ (0 ≤ (v3 + 1)) ∧ ((v3 + 1) < sL G) ∧ (h v1 (-1) = 10) ∧ Runs G mm_X9_count [vR v1, vI (sX G (v3 + 1))] h (fun r h' => AZ G mm_L_law b 983 [(0, vR (-1)), (1, vR v1), (2, vR v2), (3, vI v3)] (r.toList ++ []) h' Z)) ∧ (((iAnd (sX G v3) 31) < 0 ∨ 26 < (iAnd (sX G v3) 31)) → (inI (v3 + 6)) ∧ AZ G mm_L_law b 18 [(0, vR (-1)), (1, vR v1), (2, vR v2), (3, vI (v3 + 6))] [] h Z))) : AZ G mm_L_law b 18 [(0, vR (-1)), (1, vR v1), (2, vR v2), (3, vI v3)] [] h Z := by
  refine aw_iload_n 3 dL_law_18 rfl rfl ?_
  refine aw_aload_n 0 dL_law_19 rfl rfl ?_
  obtain ⟨o1, k⟩ := k
  refine aw_slen o1 dL_law_20 ?_
  refine aw_bipush dL_law_21 ⟨by decide, by decide⟩ (by decide) ?_
  obtain ⟨o2, k⟩ := k
  refine aw_isub dL_law_23 o2 ?_
  refine aw_icmp_gt (tgt := 1003) dL_law_24 (by decide) (fun hc => ?_) (fun hc => ?_)
  · have k := k.1 hc
    refine aw_iconst dL_law_1003 ⟨by decide, by decide⟩ ?_
    exact k
  · have k := k.2 hc
    refine aw_aload_n 0 dL_law_27 rfl rfl ?_
    refine aw_iload_n 3 dL_law_28 rfl rfl ?_
    obtain ⟨o3, k⟩ := k
    obtain ⟨o4, k⟩ := k
    refine aw_sld o3 o4 dL_law_29 ?_
    refine aw_bipush dL_law_30 ⟨by decide, by decide⟩ (by decide) ?_
    refine aw_iand dL_law_32 ?_
    rcases (show (iAnd (sX G v3) 31) = 0 ∨ (iAnd (sX G v3) 31) = 1 ∨ (iAnd (sX G v3) 31) = 2 ∨ (iAnd (sX G v3) 31) = 3 ∨ (iAnd (sX G v3) 31) = 4 ∨ (iAnd (sX G v3) 31) = 5 ∨ (iAnd (sX G v3) 31) = 6 ∨ (iAnd (sX G v3) 31) = 7 ∨ (iAnd (sX G v3) 31) = 8 ∨ (iAnd (sX G v3) 31) = 9 ∨ (iAnd (sX G v3) 31) = 10 ∨ (iAnd (sX G v3) 31) = 11 ∨ (iAnd (sX G v3) 31) = 12 ∨ (iAnd (sX G v3) 31) = 13 ∨ (iAnd (sX G v3) 31) = 14 ∨ (iAnd (sX G v3) 31) = 15 ∨ (iAnd (sX G v3) 31) = 16 ∨ (iAnd (sX G v3) 31) = 17 ∨ (iAnd (sX G v3) 31) = 18 ∨ (iAnd (sX G v3) 31) = 19 ∨ (iAnd (sX G v3) 31) = 20 ∨ (iAnd (sX G v3) 31) = 21 ∨ (iAnd (sX G v3) 31) = 22 ∨ (iAnd (sX G v3) 31) = 23 ∨ (iAnd (sX G v3) 31) = 24 ∨ (iAnd (sX G v3) 31) = 25 ∨ (iAnd (sX G v3) 31) = 26 ∨ ((iAnd (sX G v3) 31) < 0 ∨ 26 < (iAnd (sX G v3) 31)) by omega) with hc | hc | hc | hc | hc | hc | hc | hc | hc | hc | hc | hc | hc | hc | hc | hc | hc | hc | hc | hc | hc | hc | hc | hc | hc | hc | hc | hc
    · have k := k.1 hc
      refine aw_tableIn (x := (iAnd (sX G v3) 31)) (tgt := 156) dL_law_33 (by omega) (by omega) (by rw [hc]; rfl) (by decide) ?_
      refine aw_aload_n 1 dL_law_156 rfl rfl ?_
      refine aw_aload_n 0 dL_law_157 rfl rfl ?_
      refine aw_iload_n 3 dL_law_158 rfl rfl ?_
      refine aw_iconst dL_law_159 ⟨by decide, by decide⟩ ?_
      obtain ⟨o5, k⟩ := k
      refine aw_iadd dL_law_160 o5 ?_
      obtain ⟨o6, k⟩ := k
      obtain ⟨o7, k⟩ := k
      refine aw_sld o6 o7 dL_law_161 ?_
      obtain ⟨o8, k⟩ := k
      refine aw_callV (M' := mm_X9_write) 9 [vI (sX G (v3 + 1))] [] lk_L_13 ⟨_, rfl, rfl⟩ dL_law_162 rfl (Nat.le_of_ble_eq_true rfl) ⟨by decide, by decide, Nat.zero_le _, Nat.zero_le _⟩ o8 ?_
      exact k
    · have k := k.2.1 hc
      refine aw_tableIn (x := (iAnd (sX G v3) 31)) (tgt := 179) dL_law_33 (by omega) (by omega) (by rw [hc]; rfl) (by decide) ?_
      refine aw_aload_n 1 dL_law_179 rfl rfl ?_
      obtain ⟨o9, k⟩ := k
      refine aw_callV (M' := mm_X9_erase) 9 [] [] lk_L_18 ⟨_, rfl, rfl⟩ dL_law_180 rfl (Nat.le_of_ble_eq_true rfl) ⟨by decide, by decide, Nat.zero_le _, Nat.zero_le _⟩ o9 ?_
      exact k
    · have k := k.2.2.1 hc
      refine aw_tableIn (x := (iAnd (sX G v3) 31)) (tgt := 192) dL_law_33 (by omega) (by omega) (by rw [hc]; rfl) (by decide) ?_
      refine aw_aload_n 1 dL_law_192 rfl rfl ?_
      obtain ⟨o10, k⟩ := k
      refine aw_callV (M' := mm_X9_fault) 9 [] [] lk_L_23 ⟨_, rfl, rfl⟩ dL_law_193 rfl (Nat.le_of_ble_eq_true rfl) ⟨by decide, by decide, Nat.zero_le _, Nat.zero_le _⟩ o10 ?_
      exact k
    · have k := k.2.2.2.1 hc
      refine aw_tableIn (x := (iAnd (sX G v3) 31)) (tgt := 205) dL_law_33 (by omega) (by omega) (by rw [hc]; rfl) (by decide) ?_
      refine aw_aload_n 1 dL_law_205 rfl rfl ?_
      obtain ⟨o11, k⟩ := k
      refine aw_callV (M' := mm_X9_tell) 9 [] [] lk_L_27 ⟨_, rfl, rfl⟩ dL_law_206 rfl (Nat.le_of_ble_eq_true rfl) ⟨by decide, by decide, Nat.zero_le _, Nat.zero_le _⟩ o11 ?_
      exact k
    · have k := k.2.2.2.2.1 hc
      refine aw_tableIn (x := (iAnd (sX G v3) 31)) (tgt := 218) dL_law_33 (by omega) (by omega) (by rw [hc]; rfl) (by decide) ?_
      refine aw_aload_n 1 dL_law_218 rfl rfl ?_
      refine aw_aload_n 0 dL_law_219 rfl rfl ?_
      refine aw_iload_n 3 dL_law_220 rfl rfl ?_
      refine aw_iconst dL_law_221 ⟨by decide, by decide⟩ ?_
      obtain ⟨o12, k⟩ := k
      refine aw_iadd dL_law_222 o12 ?_
      obtain ⟨o13, k⟩ := k
      obtain ⟨o14, k⟩ := k
      refine aw_sld o13 o14 dL_law_223 ?_
      refine aw_aload_n 0 dL_law_224 rfl rfl ?_
      refine aw_iload_n 3 dL_law_225 rfl rfl ?_
      refine aw_iconst dL_law_226 ⟨by decide, by decide⟩ ?_
      obtain ⟨o15, k⟩ := k
      refine aw_iadd dL_law_227 o15 ?_
      obtain ⟨o16, k⟩ := k
      obtain ⟨o17, k⟩ := k
      refine aw_sld o16 o17 dL_law_228 ?_
      obtain ⟨o18, k⟩ := k
      refine aw_callV (M' := mm_X9_cell) 9 [vI (sX G (v3 + 1)), vI (sX G (v3 + 2))] [] lk_L_31 ⟨_, rfl, rfl⟩ dL_law_229 rfl (Nat.le_of_ble_eq_true rfl) ⟨by decide, by decide, Nat.zero_le _, Nat.zero_le _⟩ o18 ?_
      exact k
    · have k := k.2.2.2.2.2.1 hc
      refine aw_tableIn (x := (iAnd (sX G v3) 31)) (tgt := 251) dL_law_33 (by omega) (by omega) (by rw [hc]; rfl) (by decide) ?_
      refine aw_aload_n 1 dL_law_251 rfl rfl ?_
      refine aw_aload_n 0 dL_law_252 rfl rfl ?_
      refine aw_iload_n 3 dL_law_253 rfl rfl ?_
      refine aw_iconst dL_law_254 ⟨by decide, by decide⟩ ?_
      obtain ⟨o19, k⟩ := k
      refine aw_iadd dL_law_255 o19 ?_
      obtain ⟨o20, k⟩ := k
      obtain ⟨o21, k⟩ := k
      refine aw_sld o20 o21 dL_law_256 ?_
      refine aw_aload_n 0 dL_law_257 rfl rfl ?_
      refine aw_iload_n 3 dL_law_258 rfl rfl ?_
      refine aw_iconst dL_law_259 ⟨by decide, by decide⟩ ?_
      obtain ⟨o22, k⟩ := k
      refine aw_iadd dL_law_260 o22 ?_
      obtain ⟨o23, k⟩ := k
      obtain ⟨o24, k⟩ := k
      refine aw_sld o23 o24 dL_law_261 ?_
      refine aw_aload_n 0 dL_law_262 rfl rfl ?_
      refine aw_iload_n 3 dL_law_263 rfl rfl ?_
      refine aw_iconst dL_law_264 ⟨by decide, by decide⟩ ?_
      obtain ⟨o25, k⟩ := k
      refine aw_iadd dL_law_265 o25 ?_
      obtain ⟨o26, k⟩ := k
      obtain ⟨o27, k⟩ := k
      refine aw_sld o26 o27 dL_law_266 ?_
      obtain ⟨o28, k⟩ := k
      refine aw_callV (M' := mm_X9_put) 9 [vI (sX G (v3 + 1)), vI (sX G (v3 + 2)), vI (sX G (v3 + 3))] [] lk_L_36 ⟨_, rfl, rfl⟩ dL_law_267 rfl (Nat.le_of_ble_eq_true rfl) ⟨by decide, by decide, Nat.zero_le _, Nat.zero_le _⟩ o28 ?_
      exact k
    · have k := k.2.2.2.2.2.2.1 hc
      refine aw_tableIn (x := (iAnd (sX G v3) 31)) (tgt := 294) dL_law_33 (by omega) (by omega) (by rw [hc]; rfl) (by decide) ?_
      refine aw_aload_n 1 dL_law_294 rfl rfl ?_
      refine aw_aload_n 0 dL_law_295 rfl rfl ?_
      refine aw_iload_n 3 dL_law_296 rfl rfl ?_
      refine aw_iconst dL_law_297 ⟨by decide, by decide⟩ ?_
      obtain ⟨o29, k⟩ := k
      refine aw_iadd dL_law_298 o29 ?_
      obtain ⟨o30, k⟩ := k
      obtain ⟨o31, k⟩ := k
      refine aw_sld o30 o31 dL_law_299 ?_
      refine aw_aload_n 0 dL_law_300 rfl rfl ?_
      refine aw_iload_n 3 dL_law_301 rfl rfl ?_
      refine aw_iconst dL_law_302 ⟨by decide, by decide⟩ ?_
      obtain ⟨o32, k⟩ := k
      refine aw_iadd dL_law_303 o32 ?_
      obtain ⟨o33, k⟩ := k
      obtain ⟨o34, k⟩ := k
      refine aw_sld o33 o34 dL_law_304 ?_
      refine aw_aload_n 0 dL_law_305 rfl rfl ?_
      refine aw_iload_n 3 dL_law_306 rfl rfl ?_
      refine aw_iconst dL_law_307 ⟨by decide, by decide⟩ ?_
      obtain ⟨o35, k⟩ := k
      refine aw_iadd dL_law_308 o35 ?_
      obtain ⟨o36, k⟩ := k
      obtain ⟨o37, k⟩ := k
      refine aw_sld o36 o37 dL_law_309 ?_
      refine aw_aload_n 0 dL_law_310 rfl rfl ?_
      refine aw_iload_n 3 dL_law_311 rfl rfl ?_
      refine aw_iconst dL_law_312 ⟨by decide, by decide⟩ ?_
      obtain ⟨o38, k⟩ := k
      refine aw_iadd dL_law_313 o38 ?_
      obtain ⟨o39, k⟩ := k
      obtain ⟨o40, k⟩ := k
      refine aw_sld o39 o40 dL_law_314 ?_
      refine aw_aload_n 0 dL_law_315 rfl rfl ?_
      refine aw_iload_n 3 dL_law_316 rfl rfl ?_
      refine aw_iconst dL_law_317 ⟨by decide, by decide⟩ ?_
      obtain ⟨o41, k⟩ := k
      refine aw_iadd dL_law_318 o41 ?_
      obtain ⟨o42, k⟩ := k
      obtain ⟨o43, k⟩ := k
      refine aw_sld o42 o43 dL_law_319 ?_
      obtain ⟨o44, k⟩ := k
      refine aw_callV (M' := mm_X9_key) 9 [vI (sX G (v3 + 1)), vI (sX G (v3 + 2)), vI (sX G (v3 + 3)), vI (sX G (v3 + 4)), vI (sX G (v3 + 5))] [] lk_L_41 ⟨_, rfl, rfl⟩ dL_law_320 rfl (Nat.le_of_ble_eq_true rfl) ⟨by decide, by decide, Nat.zero_le _, Nat.zero_le _⟩ o44 ?_
      exact k
    · have k := k.2.2.2.2.2.2.2.1 hc
      refine aw_tableIn (x := (iAnd (sX G v3) 31)) (tgt := 357) dL_law_33 (by omega) (by omega) (by rw [hc]; rfl) (by decide) ?_
      refine aw_aload_n 1 dL_law_357 rfl rfl ?_
      refine aw_aload_n 0 dL_law_358 rfl rfl ?_
      refine aw_iload_n 3 dL_law_359 rfl rfl ?_
      refine aw_iconst dL_law_360 ⟨by decide, by decide⟩ ?_
      obtain ⟨o45, k⟩ := k
      refine aw_iadd dL_law_361 o45 ?_
      obtain ⟨o46, k⟩ := k
      obtain ⟨o47, k⟩ := k
      refine aw_sld o46 o47 dL_law_362 ?_
      refine aw_aload_n 0 dL_law_363 rfl rfl ?_
      refine aw_iload_n 3 dL_law_364 rfl rfl ?_
      refine aw_iconst dL_law_365 ⟨by decide, by decide⟩ ?_
      obtain ⟨o48, k⟩ := k
      refine aw_iadd dL_law_366 o48 ?_
      obtain ⟨o49, k⟩ := k
      obtain ⟨o50, k⟩ := k
      refine aw_sld o49 o50 dL_law_367 ?_
      obtain ⟨o51, k⟩ := k
      refine aw_callV (M' := mm_X9_lock) 9 [vI (sX G (v3 + 1)), vI (sX G (v3 + 2))] [] lk_L_46 ⟨_, rfl, rfl⟩ dL_law_368 rfl (Nat.le_of_ble_eq_true rfl) ⟨by decide, by decide, Nat.zero_le _, Nat.zero_le _⟩ o51 ?_
      exact k
    · have k := k.2.2.2.2.2.2.2.2.1 hc
      refine aw_tableIn (x := (iAnd (sX G v3) 31)) (tgt := 390) dL_law_33 (by omega) (by omega) (by rw [hc]; rfl) (by decide) ?_
      refine aw_aload_n 1 dL_law_390 rfl rfl ?_
      refine aw_aload_n 0 dL_law_391 rfl rfl ?_
      refine aw_iload_n 3 dL_law_392 rfl rfl ?_
      refine aw_iconst dL_law_393 ⟨by decide, by decide⟩ ?_
      obtain ⟨o52, k⟩ := k
      refine aw_iadd dL_law_394 o52 ?_
      obtain ⟨o53, k⟩ := k
      obtain ⟨o54, k⟩ := k
      refine aw_sld o53 o54 dL_law_395 ?_
      refine aw_aload_n 0 dL_law_396 rfl rfl ?_
      refine aw_iload_n 3 dL_law_397 rfl rfl ?_
      refine aw_iconst dL_law_398 ⟨by decide, by decide⟩ ?_
      obtain ⟨o55, k⟩ := k
      refine aw_iadd dL_law_399 o55 ?_
      obtain ⟨o56, k⟩ := k
      obtain ⟨o57, k⟩ := k
      refine aw_sld o56 o57 dL_law_400 ?_
      refine aw_aload_n 0 dL_law_401 rfl rfl ?_
      refine aw_iload_n 3 dL_law_402 rfl rfl ?_
      refine aw_iconst dL_law_403 ⟨by decide, by decide⟩ ?_
      obtain ⟨o58, k⟩ := k
      refine aw_iadd dL_law_404 o58 ?_
      obtain ⟨o59, k⟩ := k
      obtain ⟨o60, k⟩ := k
      refine aw_sld o59 o60 dL_law_405 ?_
      obtain ⟨o61, k⟩ := k
      refine aw_callV (M' := mm_X9_door) 9 [vI (sX G (v3 + 1)), vI (sX G (v3 + 2)), vI (sX G (v3 + 3))] [] lk_L_50 ⟨_, rfl, rfl⟩ dL_law_406 rfl (Nat.le_of_ble_eq_true rfl) ⟨by decide, by decide, Nat.zero_le _, Nat.zero_le _⟩ o61 ?_
      exact k
    · have k := k.2.2.2.2.2.2.2.2.2.1 hc
      refine aw_tableIn (x := (iAnd (sX G v3) 31)) (tgt := 433) dL_law_33 (by omega) (by omega) (by rw [hc]; rfl) (by decide) ?_
      refine aw_aload_n 1 dL_law_433 rfl rfl ?_
      refine aw_aload_n 0 dL_law_434 rfl rfl ?_
      refine aw_iload_n 3 dL_law_435 rfl rfl ?_
      refine aw_iconst dL_law_436 ⟨by decide, by decide⟩ ?_
      obtain ⟨o62, k⟩ := k
      refine aw_iadd dL_law_437 o62 ?_
      obtain ⟨o63, k⟩ := k
      obtain ⟨o64, k⟩ := k
      refine aw_sld o63 o64 dL_law_438 ?_
      obtain ⟨o65, k⟩ := k
      refine aw_callV (M' := mm_X9_join) 9 [vI (sX G (v3 + 1))] [] lk_L_54 ⟨_, rfl, rfl⟩ dL_law_439 rfl (Nat.le_of_ble_eq_true rfl) ⟨by decide, by decide, Nat.zero_le _, Nat.zero_le _⟩ o65 ?_
      exact k
    · have k := k.2.2.2.2.2.2.2.2.2.2.1 hc
      refine aw_tableIn (x := (iAnd (sX G v3) 31)) (tgt := 456) dL_law_33 (by omega) (by omega) (by rw [hc]; rfl) (by decide) ?_
      refine aw_aload_n 1 dL_law_456 rfl rfl ?_
      refine aw_aload_n 0 dL_law_457 rfl rfl ?_
      refine aw_iload_n 3 dL_law_458 rfl rfl ?_
      refine aw_iconst dL_law_459 ⟨by decide, by decide⟩ ?_
      obtain ⟨o66, k⟩ := k
      refine aw_iadd dL_law_460 o66 ?_
      obtain ⟨o67, k⟩ := k
      obtain ⟨o68, k⟩ := k
      refine aw_sld o67 o68 dL_law_461 ?_
      obtain ⟨o69, k⟩ := k
      obtain ⟨o70, k⟩ := k
      obtain ⟨o71, k⟩ := k
      refine aw_callV (M' := mm_X9_tear) 9 [vI (sX G (v3 + 1))] [] lk_L_58 ⟨_, rfl, rfl⟩ dL_law_462 rfl (Nat.le_of_ble_eq_true rfl) ⟨by decide, by decide, o69, o70⟩ o71 ?_
      exact k
    · have k := k.2.2.2.2.2.2.2.2.2.2.2.1 hc
      refine aw_tableIn (x := (iAnd (sX G v3) 31)) (tgt := 479) dL_law_33 (by omega) (by omega) (by rw [hc]; rfl) (by decide) ?_
      refine aw_aload_n 1 dL_law_479 rfl rfl ?_
      refine aw_aload_n 0 dL_law_480 rfl rfl ?_
      refine aw_iload_n 3 dL_law_481 rfl rfl ?_
      refine aw_iconst dL_law_482 ⟨by decide, by decide⟩ ?_
      obtain ⟨o72, k⟩ := k
      refine aw_iadd dL_law_483 o72 ?_
      obtain ⟨o73, k⟩ := k
      obtain ⟨o74, k⟩ := k
      refine aw_sld o73 o74 dL_law_484 ?_
      refine aw_aload_n 0 dL_law_485 rfl rfl ?_
      refine aw_iload_n 3 dL_law_486 rfl rfl ?_
      refine aw_iconst dL_law_487 ⟨by decide, by decide⟩ ?_
      obtain ⟨o75, k⟩ := k
      refine aw_iadd dL_law_488 o75 ?_
      obtain ⟨o76, k⟩ := k
      obtain ⟨o77, k⟩ := k
      refine aw_sld o76 o77 dL_law_489 ?_
      obtain ⟨o78, k⟩ := k
      refine aw_callV (M' := mm_X9_delay) 9 [vI (sX G (v3 + 1)), vI (sX G (v3 + 2))] [] lk_L_62 ⟨_, rfl, rfl⟩ dL_law_490 rfl (Nat.le_of_ble_eq_true rfl) ⟨by decide, by decide, Nat.zero_le _, Nat.zero_le _⟩ o78 ?_
      exact k
    · have k := k.2.2.2.2.2.2.2.2.2.2.2.2.1 hc
      refine aw_tableIn (x := (iAnd (sX G v3) 31)) (tgt := 512) dL_law_33 (by omega) (by omega) (by rw [hc]; rfl) (by decide) ?_
      refine aw_aload_n 1 dL_law_512 rfl rfl ?_
      refine aw_aload_n 0 dL_law_513 rfl rfl ?_
      refine aw_iload_n 3 dL_law_514 rfl rfl ?_
      refine aw_iconst dL_law_515 ⟨by decide, by decide⟩ ?_
      obtain ⟨o79, k⟩ := k
      refine aw_iadd dL_law_516 o79 ?_
      obtain ⟨o80, k⟩ := k
      obtain ⟨o81, k⟩ := k
      refine aw_sld o80 o81 dL_law_517 ?_
      refine aw_aload_n 0 dL_law_518 rfl rfl ?_
      refine aw_iload_n 3 dL_law_519 rfl rfl ?_
      refine aw_iconst dL_law_520 ⟨by decide, by decide⟩ ?_
      obtain ⟨o82, k⟩ := k
      refine aw_iadd dL_law_521 o82 ?_
      obtain ⟨o83, k⟩ := k
      obtain ⟨o84, k⟩ := k
      refine aw_sld o83 o84 dL_law_522 ?_
      refine aw_aload_n 0 dL_law_523 rfl rfl ?_
      refine aw_iload_n 3 dL_law_524 rfl rfl ?_
      refine aw_iconst dL_law_525 ⟨by decide, by decide⟩ ?_
      obtain ⟨o85, k⟩ := k
      refine aw_iadd dL_law_526 o85 ?_
      obtain ⟨o86, k⟩ := k
      obtain ⟨o87, k⟩ := k
      refine aw_sld o86 o87 dL_law_527 ?_
      obtain ⟨o88, k⟩ := k
      refine aw_callV (M' := mm_X9_aim) 9 [vI (sX G (v3 + 1)), vI (sX G (v3 + 2)), vI (sX G (v3 + 3))] [] lk_L_66 ⟨_, rfl, rfl⟩ dL_law_528 rfl (Nat.le_of_ble_eq_true rfl) ⟨by decide, by decide, Nat.zero_le _, Nat.zero_le _⟩ o88 ?_
      exact k
    · have k := k.2.2.2.2.2.2.2.2.2.2.2.2.2.1 hc
      refine aw_tableIn (x := (iAnd (sX G v3) 31)) (tgt := 555) dL_law_33 (by omega) (by omega) (by rw [hc]; rfl) (by decide) ?_
      refine aw_aload_n 1 dL_law_555 rfl rfl ?_
      refine aw_aload_n 0 dL_law_556 rfl rfl ?_
      refine aw_iload_n 3 dL_law_557 rfl rfl ?_
      refine aw_iconst dL_law_558 ⟨by decide, by decide⟩ ?_
      obtain ⟨o89, k⟩ := k
      refine aw_iadd dL_law_559 o89 ?_
      obtain ⟨o90, k⟩ := k
      obtain ⟨o91, k⟩ := k
      refine aw_sld o90 o91 dL_law_560 ?_
      refine aw_aload_n 0 dL_law_561 rfl rfl ?_
      refine aw_iload_n 3 dL_law_562 rfl rfl ?_
      refine aw_iconst dL_law_563 ⟨by decide, by decide⟩ ?_
      obtain ⟨o92, k⟩ := k
      refine aw_iadd dL_law_564 o92 ?_
      obtain ⟨o93, k⟩ := k
      obtain ⟨o94, k⟩ := k
      refine aw_sld o93 o94 dL_law_565 ?_
      obtain ⟨o95, k⟩ := k
      refine aw_callV (M' := mm_X9_send) 9 [vI (sX G (v3 + 1)), vI (sX G (v3 + 2))] [] lk_L_70 ⟨_, rfl, rfl⟩ dL_law_566 rfl (Nat.le_of_ble_eq_true rfl) ⟨by decide, by decide, Nat.zero_le _, Nat.zero_le _⟩ o95 ?_
      exact k
    · have k := k.2.2.2.2.2.2.2.2.2.2.2.2.2.2.1 hc
      refine aw_tableIn (x := (iAnd (sX G v3) 31)) (tgt := 588) dL_law_33 (by omega) (by omega) (by rw [hc]; rfl) (by decide) ?_
      refine aw_aload_n 1 dL_law_588 rfl rfl ?_
      refine aw_aload_n 0 dL_law_589 rfl rfl ?_
      refine aw_iload_n 3 dL_law_590 rfl rfl ?_
      refine aw_iconst dL_law_591 ⟨by decide, by decide⟩ ?_
      obtain ⟨o96, k⟩ := k
      refine aw_iadd dL_law_592 o96 ?_
      obtain ⟨o97, k⟩ := k
      obtain ⟨o98, k⟩ := k
      refine aw_sld o97 o98 dL_law_593 ?_
      refine aw_aload_n 0 dL_law_594 rfl rfl ?_
      refine aw_iload_n 3 dL_law_595 rfl rfl ?_
      refine aw_iconst dL_law_596 ⟨by decide, by decide⟩ ?_
      obtain ⟨o99, k⟩ := k
      refine aw_iadd dL_law_597 o99 ?_
      obtain ⟨o100, k⟩ := k
      obtain ⟨o101, k⟩ := k
      refine aw_sld o100 o101 dL_law_598 ?_
      obtain ⟨o102, k⟩ := k
      refine aw_callV (M' := mm_X9_store) 9 [vI (sX G (v3 + 1)), vI (sX G (v3 + 2))] [] lk_L_74 ⟨_, rfl, rfl⟩ dL_law_599 rfl (Nat.le_of_ble_eq_true rfl) ⟨by decide, by decide, Nat.zero_le _, Nat.zero_le _⟩ o102 ?_
      exact k
    · have k := k.2.2.2.2.2.2.2.2.2.2.2.2.2.2.2.1 hc
      refine aw_tableIn (x := (iAnd (sX G v3) 31)) (tgt := 621) dL_law_33 (by omega) (by omega) (by rw [hc]; rfl) (by decide) ?_
      refine aw_aload_n 1 dL_law_621 rfl rfl ?_
      refine aw_aload_n 0 dL_law_622 rfl rfl ?_
      refine aw_iload_n 3 dL_law_623 rfl rfl ?_
      refine aw_iconst dL_law_624 ⟨by decide, by decide⟩ ?_
      obtain ⟨o103, k⟩ := k
      refine aw_iadd dL_law_625 o103 ?_
      obtain ⟨o104, k⟩ := k
      obtain ⟨o105, k⟩ := k
      refine aw_sld o104 o105 dL_law_626 ?_
      refine aw_aload_n 0 dL_law_627 rfl rfl ?_
      refine aw_iload_n 3 dL_law_628 rfl rfl ?_
      refine aw_iconst dL_law_629 ⟨by decide, by decide⟩ ?_
      obtain ⟨o106, k⟩ := k
      refine aw_iadd dL_law_630 o106 ?_
      obtain ⟨o107, k⟩ := k
      obtain ⟨o108, k⟩ := k
      refine aw_sld o107 o108 dL_law_631 ?_
      obtain ⟨o109, k⟩ := k
      refine aw_callV (M' := mm_X9_read) 9 [vI (sX G (v3 + 1)), vI (sX G (v3 + 2))] [] lk_L_78 ⟨_, rfl, rfl⟩ dL_law_632 rfl (Nat.le_of_ble_eq_true rfl) ⟨by decide, by decide, Nat.zero_le _, Nat.zero_le _⟩ o109 ?_
      exact k
    · have k := k.2.2.2.2.2.2.2.2.2.2.2.2.2.2.2.2.1 hc
      refine aw_tableIn (x := (iAnd (sX G v3) 31)) (tgt := 654) dL_law_33 (by omega) (by omega) (by rw [hc]; rfl) (by decide) ?_
      refine aw_aload_n 1 dL_law_654 rfl rfl ?_
      refine aw_aload_n 0 dL_law_655 rfl rfl ?_
      refine aw_iload_n 3 dL_law_656 rfl rfl ?_
      refine aw_iconst dL_law_657 ⟨by decide, by decide⟩ ?_
      obtain ⟨o110, k⟩ := k
      refine aw_iadd dL_law_658 o110 ?_
      obtain ⟨o111, k⟩ := k
      obtain ⟨o112, k⟩ := k
      refine aw_sld o111 o112 dL_law_659 ?_
      refine aw_aload_n 0 dL_law_660 rfl rfl ?_
      refine aw_iload_n 3 dL_law_661 rfl rfl ?_
      refine aw_iconst dL_law_662 ⟨by decide, by decide⟩ ?_
      obtain ⟨o113, k⟩ := k
      refine aw_iadd dL_law_663 o113 ?_
      obtain ⟨o114, k⟩ := k
      obtain ⟨o115, k⟩ := k
      refine aw_sld o114 o115 dL_law_664 ?_
      refine aw_aload_n 0 dL_law_665 rfl rfl ?_
      refine aw_iload_n 3 dL_law_666 rfl rfl ?_
      refine aw_iconst dL_law_667 ⟨by decide, by decide⟩ ?_
      obtain ⟨o116, k⟩ := k
      refine aw_iadd dL_law_668 o116 ?_
      obtain ⟨o117, k⟩ := k
      obtain ⟨o118, k⟩ := k
      refine aw_sld o117 o118 dL_law_669 ?_
      obtain ⟨o119, k⟩ := k
      refine aw_callV (M' := mm_X9_add) 9 [vI (sX G (v3 + 1)), vI (sX G (v3 + 2)), vI (sX G (v3 + 3))] [] lk_L_82 ⟨_, rfl, rfl⟩ dL_law_670 rfl (Nat.le_of_ble_eq_true rfl) ⟨by decide, by decide, Nat.zero_le _, Nat.zero_le _⟩ o119 ?_
      exact k
    · have k := k.2.2.2.2.2.2.2.2.2.2.2.2.2.2.2.2.2.1 hc
      refine aw_tableIn (x := (iAnd (sX G v3) 31)) (tgt := 697) dL_law_33 (by omega) (by omega) (by rw [hc]; rfl) (by decide) ?_
      refine aw_aload_n 1 dL_law_697 rfl rfl ?_
      refine aw_aload_n 0 dL_law_698 rfl rfl ?_
      refine aw_iload_n 3 dL_law_699 rfl rfl ?_
      refine aw_iconst dL_law_700 ⟨by decide, by decide⟩ ?_
      obtain ⟨o120, k⟩ := k
      refine aw_iadd dL_law_701 o120 ?_
      obtain ⟨o121, k⟩ := k
      obtain ⟨o122, k⟩ := k
      refine aw_sld o121 o122 dL_law_702 ?_
      refine aw_aload_n 0 dL_law_703 rfl rfl ?_
      refine aw_iload_n 3 dL_law_704 rfl rfl ?_
      refine aw_iconst dL_law_705 ⟨by decide, by decide⟩ ?_
      obtain ⟨o123, k⟩ := k
      refine aw_iadd dL_law_706 o123 ?_
      obtain ⟨o124, k⟩ := k
      obtain ⟨o125, k⟩ := k
      refine aw_sld o124 o125 dL_law_707 ?_
      refine aw_aload_n 0 dL_law_708 rfl rfl ?_
      refine aw_iload_n 3 dL_law_709 rfl rfl ?_
      refine aw_iconst dL_law_710 ⟨by decide, by decide⟩ ?_
      obtain ⟨o126, k⟩ := k
      refine aw_iadd dL_law_711 o126 ?_
      obtain ⟨o127, k⟩ := k
      obtain ⟨o128, k⟩ := k
      refine aw_sld o127 o128 dL_law_712 ?_
      refine aw_aload_n 0 dL_law_713 rfl rfl ?_
      refine aw_iload_n 3 dL_law_714 rfl rfl ?_
      refine aw_iconst dL_law_715 ⟨by decide, by decide⟩ ?_
      obtain ⟨o129, k⟩ := k
      refine aw_iadd dL_law_716 o129 ?_
      obtain ⟨o130, k⟩ := k
      obtain ⟨o131, k⟩ := k
      refine aw_sld o130 o131 dL_law_717 ?_
      obtain ⟨o132, k⟩ := k
      refine aw_callV (M' := mm_X9_swap) 9 [vI (sX G (v3 + 1)), vI (sX G (v3 + 2)), vI (sX G (v3 + 3)), vI (sX G (v3 + 4))] [] lk_L_86 ⟨_, rfl, rfl⟩ dL_law_718 rfl (Nat.le_of_ble_eq_true rfl) ⟨by decide, by decide, Nat.zero_le _, Nat.zero_le _⟩ o132 ?_
      exact k
    · have k := k.2.2.2.2.2.2.2.2.2.2.2.2.2.2.2.2.2.2.1 hc
      refine aw_tableIn (x := (iAnd (sX G v3) 31)) (tgt := 750) dL_law_33 (by omega) (by omega) (by rw [hc]; rfl) (by decide) ?_
      refine aw_aload_n 1 dL_law_750 rfl rfl ?_
      refine aw_aload_n 0 dL_law_751 rfl rfl ?_
      refine aw_iload_n 3 dL_law_752 rfl rfl ?_
      refine aw_iconst dL_law_753 ⟨by decide, by decide⟩ ?_
      obtain ⟨o133, k⟩ := k
      refine aw_iadd dL_law_754 o133 ?_
      obtain ⟨o134, k⟩ := k
      obtain ⟨o135, k⟩ := k
      refine aw_sld o134 o135 dL_law_755 ?_
      refine aw_aload_n 0 dL_law_756 rfl rfl ?_
      refine aw_iload_n 3 dL_law_757 rfl rfl ?_
      refine aw_iconst dL_law_758 ⟨by decide, by decide⟩ ?_
      obtain ⟨o136, k⟩ := k
      refine aw_iadd dL_law_759 o136 ?_
      obtain ⟨o137, k⟩ := k
      obtain ⟨o138, k⟩ := k
      refine aw_sld o137 o138 dL_law_760 ?_
      obtain ⟨o139, k⟩ := k
      refine aw_callV (M' := mm_X9_receive) 9 [vI (sX G (v3 + 1)), vI (sX G (v3 + 2))] [] lk_L_91 ⟨_, rfl, rfl⟩ dL_law_761 rfl (Nat.le_of_ble_eq_true rfl) ⟨by decide, by decide, Nat.zero_le _, Nat.zero_le _⟩ o139 ?_
      exact k
    · have k := k.2.2.2.2.2.2.2.2.2.2.2.2.2.2.2.2.2.2.2.1 hc
      refine aw_tableIn (x := (iAnd (sX G v3) 31)) (tgt := 783) dL_law_33 (by omega) (by omega) (by rw [hc]; rfl) (by decide) ?_
      refine aw_aload_n 1 dL_law_783 rfl rfl ?_
      refine aw_aload_n 0 dL_law_784 rfl rfl ?_
      refine aw_iload_n 3 dL_law_785 rfl rfl ?_
      refine aw_iconst dL_law_786 ⟨by decide, by decide⟩ ?_
      obtain ⟨o140, k⟩ := k
      refine aw_iadd dL_law_787 o140 ?_
      obtain ⟨o141, k⟩ := k
      obtain ⟨o142, k⟩ := k
      refine aw_sld o141 o142 dL_law_788 ?_
      obtain ⟨o143, k⟩ := k
      obtain ⟨o144, k⟩ := k
      obtain ⟨o145, k⟩ := k
      refine aw_callV (M' := mm_X9_step) 9 [vI (sX G (v3 + 1))] [] lk_L_95 ⟨_, rfl, rfl⟩ dL_law_789 rfl (Nat.le_of_ble_eq_true rfl) ⟨by decide, by decide, o143, o144⟩ o145 ?_
      exact k
    · have k := k.2.2.2.2.2.2.2.2.2.2.2.2.2.2.2.2.2.2.2.2.1 hc
      refine aw_tableIn (x := (iAnd (sX G v3) 31)) (tgt := 806) dL_law_33 (by omega) (by omega) (by rw [hc]; rfl) (by decide) ?_
      refine aw_aload_n 1 dL_law_806 rfl rfl ?_
      refine aw_aload_n 0 dL_law_807 rfl rfl ?_
      refine aw_iload_n 3 dL_law_808 rfl rfl ?_
      refine aw_iconst dL_law_809 ⟨by decide, by decide⟩ ?_
      obtain ⟨o146, k⟩ := k
      refine aw_iadd dL_law_810 o146 ?_
      obtain ⟨o147, k⟩ := k
      obtain ⟨o148, k⟩ := k
      refine aw_sld o147 o148 dL_law_811 ?_
      obtain ⟨o149, k⟩ := k
      obtain ⟨o150, k⟩ := k
      obtain ⟨o151, k⟩ := k
      refine aw_callV (M' := mm_X9_tick) 9 [vI (sX G (v3 + 1))] [] lk_L_99 ⟨_, rfl, rfl⟩ dL_law_812 rfl (Nat.le_of_ble_eq_true rfl) ⟨by decide, by decide, o149, o150⟩ o151 ?_
      exact k
    · have k := k.2.2.2.2.2.2.2.2.2.2.2.2.2.2.2.2.2.2.2.2.2.1 hc
      refine aw_tableIn (x := (iAnd (sX G v3) 31)) (tgt := 829) dL_law_33 (by omega) (by omega) (by rw [hc]; rfl) (by decide) ?_
      refine aw_aload_n 1 dL_law_829 rfl rfl ?_
      refine aw_aload_n 0 dL_law_830 rfl rfl ?_
      refine aw_iload_n 3 dL_law_831 rfl rfl ?_
      refine aw_iconst dL_law_832 ⟨by decide, by decide⟩ ?_
      obtain ⟨o152, k⟩ := k
      refine aw_iadd dL_law_833 o152 ?_
      obtain ⟨o153, k⟩ := k
      obtain ⟨o154, k⟩ := k
      refine aw_sld o153 o154 dL_law_834 ?_
      obtain ⟨o155, k⟩ := k
      refine aw_callV (M' := mm_X9_take) 9 [vI (sX G (v3 + 1))] [] lk_L_103 ⟨_, rfl, rfl⟩ dL_law_835 rfl (Nat.le_of_ble_eq_true rfl) ⟨by decide, by decide, Nat.zero_le _, Nat.zero_le _⟩ o155 ?_
      exact k
    · have k := k.2.2.2.2.2.2.2.2.2.2.2.2.2.2.2.2.2.2.2.2.2.2.1 hc
      refine aw_tableIn (x := (iAnd (sX G v3) 31)) (tgt := 852) dL_law_33 (by omega) (by omega) (by rw [hc]; rfl) (by decide) ?_
      refine aw_aload_n 1 dL_law_852 rfl rfl ?_
      refine aw_aload_n 0 dL_law_853 rfl rfl ?_
      refine aw_iload_n 3 dL_law_854 rfl rfl ?_
      refine aw_iconst dL_law_855 ⟨by decide, by decide⟩ ?_
      obtain ⟨o156, k⟩ := k
      refine aw_iadd dL_law_856 o156 ?_
      obtain ⟨o157, k⟩ := k
      obtain ⟨o158, k⟩ := k
      refine aw_sld o157 o158 dL_law_857 ?_
      obtain ⟨o159, k⟩ := k
      refine aw_callV (M' := mm_X9_taken) 9 [vI (sX G (v3 + 1))] [] lk_L_107 ⟨_, rfl, rfl⟩ dL_law_858 rfl (Nat.le_of_ble_eq_true rfl) ⟨by decide, by decide, Nat.zero_le _, Nat.zero_le _⟩ o159 ?_
      exact k
    · have k := k.2.2.2.2.2.2.2.2.2.2.2.2.2.2.2.2.2.2.2.2.2.2.2.1 hc
      refine aw_tableIn (x := (iAnd (sX G v3) 31)) (tgt := 875) dL_law_33 (by omega) (by omega) (by rw [hc]; rfl) (by decide) ?_
      refine aw_aload_n 1 dL_law_875 rfl rfl ?_
      refine aw_aload_n 0 dL_law_876 rfl rfl ?_
      refine aw_iload_n 3 dL_law_877 rfl rfl ?_
      refine aw_iconst dL_law_878 ⟨by decide, by decide⟩ ?_
      obtain ⟨o160, k⟩ := k
      refine aw_iadd dL_law_879 o160 ?_
      obtain ⟨o161, k⟩ := k
      obtain ⟨o162, k⟩ := k
      refine aw_sld o161 o162 dL_law_880 ?_
      refine aw_aload_n 0 dL_law_881 rfl rfl ?_
      refine aw_iload_n 3 dL_law_882 rfl rfl ?_
      refine aw_iconst dL_law_883 ⟨by decide, by decide⟩ ?_
      obtain ⟨o163, k⟩ := k
      refine aw_iadd dL_law_884 o163 ?_
      obtain ⟨o164, k⟩ := k
      obtain ⟨o165, k⟩ := k
      refine aw_sld o164 o165 dL_law_885 ?_
      obtain ⟨o166, k⟩ := k
      refine aw_callV (M' := mm_X9_end) 9 [vI (sX G (v3 + 1)), vI (sX G (v3 + 2))] [] lk_L_111 ⟨_, rfl, rfl⟩ dL_law_886 rfl (Nat.le_of_ble_eq_true rfl) ⟨by decide, by decide, Nat.zero_le _, Nat.zero_le _⟩ o166 ?_
      exact k
    · have k := k.2.2.2.2.2.2.2.2.2.2.2.2.2.2.2.2.2.2.2.2.2.2.2.2.1 hc
      refine aw_tableIn (x := (iAnd (sX G v3) 31)) (tgt := 908) dL_law_33 (by omega) (by omega) (by rw [hc]; rfl) (by decide) ?_
      refine aw_aload_n 1 dL_law_908 rfl rfl ?_
      refine aw_aload_n 0 dL_law_909 rfl rfl ?_
      refine aw_iload_n 3 dL_law_910 rfl rfl ?_
      refine aw_iconst dL_law_911 ⟨by decide, by decide⟩ ?_
      obtain ⟨o167, k⟩ := k
      refine aw_iadd dL_law_912 o167 ?_
      obtain ⟨o168, k⟩ := k
      obtain ⟨o169, k⟩ := k
      refine aw_sld o168 o169 dL_law_913 ?_
      refine aw_aload_n 0 dL_law_914 rfl rfl ?_
      refine aw_iload_n 3 dL_law_915 rfl rfl ?_
      refine aw_iconst dL_law_916 ⟨by decide, by decide⟩ ?_
      obtain ⟨o170, k⟩ := k
      refine aw_iadd dL_law_917 o170 ?_
      obtain ⟨o171, k⟩ := k
      obtain ⟨o172, k⟩ := k
      refine aw_sld o171 o172 dL_law_918 ?_
      refine aw_aload_n 0 dL_law_919 rfl rfl ?_
      refine aw_iload_n 3 dL_law_920 rfl rfl ?_
      refine aw_iconst dL_law_921 ⟨by decide, by decide⟩ ?_
      obtain ⟨o173, k⟩ := k
      refine aw_iadd dL_law_922 o173 ?_
      obtain ⟨o174, k⟩ := k
      obtain ⟨o175, k⟩ := k
      refine aw_sld o174 o175 dL_law_923 ?_
      obtain ⟨o176, k⟩ := k
      refine aw_callV (M' := mm_X9_open) 9 [vI (sX G (v3 + 1)), vI (sX G (v3 + 2)), vI (sX G (v3 + 3))] [] lk_L_115 ⟨_, rfl, rfl⟩ dL_law_924 rfl (Nat.le_of_ble_eq_true rfl) ⟨by decide, by decide, Nat.zero_le _, Nat.zero_le _⟩ o176 ?_
      exact k
    · have k := k.2.2.2.2.2.2.2.2.2.2.2.2.2.2.2.2.2.2.2.2.2.2.2.2.2.1 hc
      refine aw_tableIn (x := (iAnd (sX G v3) 31)) (tgt := 951) dL_law_33 (by omega) (by omega) (by rw [hc]; rfl) (by decide) ?_
      refine aw_aload_n 1 dL_law_951 rfl rfl ?_
      refine aw_aload_n 0 dL_law_952 rfl rfl ?_
      refine aw_iload_n 3 dL_law_953 rfl rfl ?_
      refine aw_iconst dL_law_954 ⟨by decide, by decide⟩ ?_
      obtain ⟨o177, k⟩ := k
      refine aw_iadd dL_law_955 o177 ?_
      obtain ⟨o178, k⟩ := k
      obtain ⟨o179, k⟩ := k
      refine aw_sld o178 o179 dL_law_956 ?_
      obtain ⟨o180, k⟩ := k
      refine aw_callV (M' := mm_X9_packet) 9 [vI (sX G (v3 + 1))] [] lk_L_119 ⟨_, rfl, rfl⟩ dL_law_957 rfl (Nat.le_of_ble_eq_true rfl) ⟨by decide, by decide, Nat.zero_le _, Nat.zero_le _⟩ o180 ?_
      exact k
    · have k := k.2.2.2.2.2.2.2.2.2.2.2.2.2.2.2.2.2.2.2.2.2.2.2.2.2.2.1 hc
      refine aw_tableIn (x := (iAnd (sX G v3) 31)) (tgt := 974) dL_law_33 (by omega) (by omega) (by rw [hc]; rfl) (by decide) ?_
      refine aw_aload_n 1 dL_law_974 rfl rfl ?_
      refine aw_aload_n 0 dL_law_975 rfl rfl ?_
      refine aw_iload_n 3 dL_law_976 rfl rfl ?_
      refine aw_iconst dL_law_977 ⟨by decide, by decide⟩ ?_
      obtain ⟨o181, k⟩ := k
      refine aw_iadd dL_law_978 o181 ?_
      obtain ⟨o182, k⟩ := k
      obtain ⟨o183, k⟩ := k
      refine aw_sld o182 o183 dL_law_979 ?_
      obtain ⟨o184, k⟩ := k
      refine aw_callV (M' := mm_X9_count) 9 [vI (sX G (v3 + 1))] [] lk_L_123 ⟨_, rfl, rfl⟩ dL_law_980 rfl (Nat.le_of_ble_eq_true rfl) ⟨by decide, by decide, Nat.zero_le _, Nat.zero_le _⟩ o184 ?_
      exact k
    · have k := k.2.2.2.2.2.2.2.2.2.2.2.2.2.2.2.2.2.2.2.2.2.2.2.2.2.2.2 hc
      refine aw_tableOut (x := (iAnd (sX G v3) 31)) (tgt := 997) dL_law_33 hc (by decide) ?_
      obtain ⟨o185, k⟩ := k
      refine aw_iinc 3 dL_law_997 rfl o185 (by decide) ?_
      refine aw_goto (tgt := 18) dL_law_1000 (by decide) ?_
      exact aw_sub [1, 2, 3, 0] rfl k
set_option maxRecDepth 20000 in
theorem sg_L_law_165 {G : GG} {b : Nat × Nat} {Z : LZ} {v1 v2 v3 s0 : Int} {h : Hp} (k : (inI (v3 + 1)) ∧ (0 ≤ (v3 + 1)) ∧ ((v3 + 1) < sL G) ∧ (h v2 (-1) = 11) ∧ Runs G mm_X10_write [vR v2, vI (sX G (v3 + 1))] h (fun r h' => AZ G mm_L_law b 174 [(0, vR (-1)), (1, vR v1), (2, vR v2), (3, vI v3)] (r.toList ++ [vI s0]) h' Z)) : AZ G mm_L_law b 165 [(0, vR (-1)), (1, vR v1), (2, vR v2), (3, vI v3)] [vI s0] h Z := by
  refine aw_aload_n 2 dL_law_165 rfl rfl ?_
  refine aw_aload_n 0 dL_law_166 rfl rfl ?_
  refine aw_iload_n 3 dL_law_167 rfl rfl ?_
  refine aw_iconst dL_law_168 ⟨by decide, by decide⟩ ?_
  obtain ⟨o1, k⟩ := k
  refine aw_iadd dL_law_169 o1 ?_
  obtain ⟨o2, k⟩ := k
  obtain ⟨o3, k⟩ := k
  refine aw_sld o2 o3 dL_law_170 ?_
  obtain ⟨o4, k⟩ := k
  refine aw_callV (M' := mm_X10_write) 10 [vI (sX G (v3 + 1))] [vI s0] lk_L_17 ⟨_, rfl, rfl⟩ dL_law_171 rfl (Nat.le_of_ble_eq_true rfl) ⟨by decide, by decide, Nat.zero_le _, Nat.zero_le _⟩ o4 ?_
  exact k
set_option maxRecDepth 20000 in
theorem sg_L_law_183 {G : GG} {b : Nat × Nat} {Z : LZ} {v1 v2 v3 s0 : Int} {h : Hp} (k : (h v2 (-1) = 11) ∧ Runs G mm_X10_erase [vR v2] h (fun r h' => AZ G mm_L_law b 187 [(0, vR (-1)), (1, vR v1), (2, vR v2), (3, vI v3)] (r.toList ++ [vI s0]) h' Z)) : AZ G mm_L_law b 183 [(0, vR (-1)), (1, vR v1), (2, vR v2), (3, vI v3)] [vI s0] h Z := by
  refine aw_aload_n 2 dL_law_183 rfl rfl ?_
  obtain ⟨o1, k⟩ := k
  refine aw_callV (M' := mm_X10_erase) 10 [] [vI s0] lk_L_22 ⟨_, rfl, rfl⟩ dL_law_184 rfl (Nat.le_of_ble_eq_true rfl) ⟨by decide, by decide, Nat.zero_le _, Nat.zero_le _⟩ o1 ?_
  exact k
set_option maxRecDepth 20000 in
theorem sg_L_law_196 {G : GG} {b : Nat × Nat} {Z : LZ} {v1 v2 v3 s0 : Int} {h : Hp} (k : (h v2 (-1) = 11) ∧ Runs G mm_X10_fault [vR v2] h (fun r h' => AZ G mm_L_law b 200 [(0, vR (-1)), (1, vR v1), (2, vR v2), (3, vI v3)] (r.toList ++ [vI s0]) h' Z)) : AZ G mm_L_law b 196 [(0, vR (-1)), (1, vR v1), (2, vR v2), (3, vI v3)] [vI s0] h Z := by
  refine aw_aload_n 2 dL_law_196 rfl rfl ?_
  obtain ⟨o1, k⟩ := k
  refine aw_callV (M' := mm_X10_fault) 10 [] [vI s0] lk_L_26 ⟨_, rfl, rfl⟩ dL_law_197 rfl (Nat.le_of_ble_eq_true rfl) ⟨by decide, by decide, Nat.zero_le _, Nat.zero_le _⟩ o1 ?_
  exact k
set_option maxRecDepth 20000 in
theorem sg_L_law_209 {G : GG} {b : Nat × Nat} {Z : LZ} {v1 v2 v3 s0 : Int} {h : Hp} (k : (h v2 (-1) = 11) ∧ Runs G mm_X10_tell [vR v2] h (fun r h' => AZ G mm_L_law b 213 [(0, vR (-1)), (1, vR v1), (2, vR v2), (3, vI v3)] (r.toList ++ [vI s0]) h' Z)) : AZ G mm_L_law b 209 [(0, vR (-1)), (1, vR v1), (2, vR v2), (3, vI v3)] [vI s0] h Z := by
  refine aw_aload_n 2 dL_law_209 rfl rfl ?_
  obtain ⟨o1, k⟩ := k
  refine aw_callV (M' := mm_X10_tell) 10 [] [vI s0] lk_L_30 ⟨_, rfl, rfl⟩ dL_law_210 rfl (Nat.le_of_ble_eq_true rfl) ⟨by decide, by decide, Nat.zero_le _, Nat.zero_le _⟩ o1 ?_
  exact k
set_option maxRecDepth 20000 in
theorem sg_L_law_232 {G : GG} {b : Nat × Nat} {Z : LZ} {v1 v2 v3 s0 : Int} {h : Hp} (k : (inI (v3 + 1)) ∧ (0 ≤ (v3 + 1)) ∧ ((v3 + 1) < sL G) ∧ (inI (v3 + 2)) ∧ (0 ≤ (v3 + 2)) ∧ ((v3 + 2) < sL G) ∧ (h v2 (-1) = 11) ∧ Runs G mm_X10_cell [vR v2, vI (sX G (v3 + 1)), vI (sX G (v3 + 2))] h (fun r h' => AZ G mm_L_law b 246 [(0, vR (-1)), (1, vR v1), (2, vR v2), (3, vI v3)] (r.toList ++ [vI s0]) h' Z)) : AZ G mm_L_law b 232 [(0, vR (-1)), (1, vR v1), (2, vR v2), (3, vI v3)] [vI s0] h Z := by
  refine aw_aload_n 2 dL_law_232 rfl rfl ?_
  refine aw_aload_n 0 dL_law_233 rfl rfl ?_
  refine aw_iload_n 3 dL_law_234 rfl rfl ?_
  refine aw_iconst dL_law_235 ⟨by decide, by decide⟩ ?_
  obtain ⟨o1, k⟩ := k
  refine aw_iadd dL_law_236 o1 ?_
  obtain ⟨o2, k⟩ := k
  obtain ⟨o3, k⟩ := k
  refine aw_sld o2 o3 dL_law_237 ?_
  refine aw_aload_n 0 dL_law_238 rfl rfl ?_
  refine aw_iload_n 3 dL_law_239 rfl rfl ?_
  refine aw_iconst dL_law_240 ⟨by decide, by decide⟩ ?_
  obtain ⟨o4, k⟩ := k
  refine aw_iadd dL_law_241 o4 ?_
  obtain ⟨o5, k⟩ := k
  obtain ⟨o6, k⟩ := k
  refine aw_sld o5 o6 dL_law_242 ?_
  obtain ⟨o7, k⟩ := k
  refine aw_callV (M' := mm_X10_cell) 10 [vI (sX G (v3 + 1)), vI (sX G (v3 + 2))] [vI s0] lk_L_35 ⟨_, rfl, rfl⟩ dL_law_243 rfl (Nat.le_of_ble_eq_true rfl) ⟨by decide, by decide, Nat.zero_le _, Nat.zero_le _⟩ o7 ?_
  exact k
set_option maxRecDepth 20000 in
theorem sg_L_law_270 {G : GG} {b : Nat × Nat} {Z : LZ} {v1 v2 v3 s0 : Int} {h : Hp} (k : (inI (v3 + 1)) ∧ (0 ≤ (v3 + 1)) ∧ ((v3 + 1) < sL G) ∧ (inI (v3 + 2)) ∧ (0 ≤ (v3 + 2)) ∧ ((v3 + 2) < sL G) ∧ (inI (v3 + 3)) ∧ (0 ≤ (v3 + 3)) ∧ ((v3 + 3) < sL G) ∧ (h v2 (-1) = 11) ∧ Runs G mm_X10_put [vR v2, vI (sX G (v3 + 1)), vI (sX G (v3 + 2)), vI (sX G (v3 + 3))] h (fun r h' => AZ G mm_L_law b 289 [(0, vR (-1)), (1, vR v1), (2, vR v2), (3, vI v3)] (r.toList ++ [vI s0]) h' Z)) : AZ G mm_L_law b 270 [(0, vR (-1)), (1, vR v1), (2, vR v2), (3, vI v3)] [vI s0] h Z := by
  refine aw_aload_n 2 dL_law_270 rfl rfl ?_
  refine aw_aload_n 0 dL_law_271 rfl rfl ?_
  refine aw_iload_n 3 dL_law_272 rfl rfl ?_
  refine aw_iconst dL_law_273 ⟨by decide, by decide⟩ ?_
  obtain ⟨o1, k⟩ := k
  refine aw_iadd dL_law_274 o1 ?_
  obtain ⟨o2, k⟩ := k
  obtain ⟨o3, k⟩ := k
  refine aw_sld o2 o3 dL_law_275 ?_
  refine aw_aload_n 0 dL_law_276 rfl rfl ?_
  refine aw_iload_n 3 dL_law_277 rfl rfl ?_
  refine aw_iconst dL_law_278 ⟨by decide, by decide⟩ ?_
  obtain ⟨o4, k⟩ := k
  refine aw_iadd dL_law_279 o4 ?_
  obtain ⟨o5, k⟩ := k
  obtain ⟨o6, k⟩ := k
  refine aw_sld o5 o6 dL_law_280 ?_
  refine aw_aload_n 0 dL_law_281 rfl rfl ?_
  refine aw_iload_n 3 dL_law_282 rfl rfl ?_
  refine aw_iconst dL_law_283 ⟨by decide, by decide⟩ ?_
  obtain ⟨o7, k⟩ := k
  refine aw_iadd dL_law_284 o7 ?_
  obtain ⟨o8, k⟩ := k
  obtain ⟨o9, k⟩ := k
  refine aw_sld o8 o9 dL_law_285 ?_
  obtain ⟨o10, k⟩ := k
  refine aw_callV (M' := mm_X10_put) 10 [vI (sX G (v3 + 1)), vI (sX G (v3 + 2)), vI (sX G (v3 + 3))] [vI s0] lk_L_40 ⟨_, rfl, rfl⟩ dL_law_286 rfl (Nat.le_of_ble_eq_true rfl) ⟨by decide, by decide, Nat.zero_le _, Nat.zero_le _⟩ o10 ?_
  exact k
set_option maxRecDepth 20000 in
theorem sg_L_law_323 {G : GG} {b : Nat × Nat} {Z : LZ} {v1 v2 v3 s0 : Int} {h : Hp} (k : (inI (v3 + 1)) ∧ (0 ≤ (v3 + 1)) ∧ ((v3 + 1) < sL G) ∧ (inI (v3 + 2)) ∧ (0 ≤ (v3 + 2)) ∧ ((v3 + 2) < sL G) ∧ (inI (v3 + 3)) ∧ (0 ≤ (v3 + 3)) ∧ ((v3 + 3) < sL G) ∧ (inI (v3 + 4)) ∧ (0 ≤ (v3 + 4)) ∧ ((v3 + 4) < sL G) ∧ (inI (v3 + 5)) ∧ (0 ≤ (v3 + 5)) ∧ ((v3 + 5) < sL G) ∧ (h v2 (-1) = 11) ∧ Runs G mm_X10_key [vR v2, vI (sX G (v3 + 1)), vI (sX G (v3 + 2)), vI (sX G (v3 + 3)), vI (sX G (v3 + 4)), vI (sX G (v3 + 5))] h (fun r h' => AZ G mm_L_law b 352 [(0, vR (-1)), (1, vR v1), (2, vR v2), (3, vI v3)] (r.toList ++ [vI s0]) h' Z)) : AZ G mm_L_law b 323 [(0, vR (-1)), (1, vR v1), (2, vR v2), (3, vI v3)] [vI s0] h Z := by
  refine aw_aload_n 2 dL_law_323 rfl rfl ?_
  refine aw_aload_n 0 dL_law_324 rfl rfl ?_
  refine aw_iload_n 3 dL_law_325 rfl rfl ?_
  refine aw_iconst dL_law_326 ⟨by decide, by decide⟩ ?_
  obtain ⟨o1, k⟩ := k
  refine aw_iadd dL_law_327 o1 ?_
  obtain ⟨o2, k⟩ := k
  obtain ⟨o3, k⟩ := k
  refine aw_sld o2 o3 dL_law_328 ?_
  refine aw_aload_n 0 dL_law_329 rfl rfl ?_
  refine aw_iload_n 3 dL_law_330 rfl rfl ?_
  refine aw_iconst dL_law_331 ⟨by decide, by decide⟩ ?_
  obtain ⟨o4, k⟩ := k
  refine aw_iadd dL_law_332 o4 ?_
  obtain ⟨o5, k⟩ := k
  obtain ⟨o6, k⟩ := k
  refine aw_sld o5 o6 dL_law_333 ?_
  refine aw_aload_n 0 dL_law_334 rfl rfl ?_
  refine aw_iload_n 3 dL_law_335 rfl rfl ?_
  refine aw_iconst dL_law_336 ⟨by decide, by decide⟩ ?_
  obtain ⟨o7, k⟩ := k
  refine aw_iadd dL_law_337 o7 ?_
  obtain ⟨o8, k⟩ := k
  obtain ⟨o9, k⟩ := k
  refine aw_sld o8 o9 dL_law_338 ?_
  refine aw_aload_n 0 dL_law_339 rfl rfl ?_
  refine aw_iload_n 3 dL_law_340 rfl rfl ?_
  refine aw_iconst dL_law_341 ⟨by decide, by decide⟩ ?_
  obtain ⟨o10, k⟩ := k
  refine aw_iadd dL_law_342 o10 ?_
  obtain ⟨o11, k⟩ := k
  obtain ⟨o12, k⟩ := k
  refine aw_sld o11 o12 dL_law_343 ?_
  refine aw_aload_n 0 dL_law_344 rfl rfl ?_
  refine aw_iload_n 3 dL_law_345 rfl rfl ?_
  refine aw_iconst dL_law_346 ⟨by decide, by decide⟩ ?_
  obtain ⟨o13, k⟩ := k
  refine aw_iadd dL_law_347 o13 ?_
  obtain ⟨o14, k⟩ := k
  obtain ⟨o15, k⟩ := k
  refine aw_sld o14 o15 dL_law_348 ?_
  obtain ⟨o16, k⟩ := k
  refine aw_callV (M' := mm_X10_key) 10 [vI (sX G (v3 + 1)), vI (sX G (v3 + 2)), vI (sX G (v3 + 3)), vI (sX G (v3 + 4)), vI (sX G (v3 + 5))] [vI s0] lk_L_45 ⟨_, rfl, rfl⟩ dL_law_349 rfl (Nat.le_of_ble_eq_true rfl) ⟨by decide, by decide, Nat.zero_le _, Nat.zero_le _⟩ o16 ?_
  exact k
set_option maxRecDepth 20000 in
theorem sg_L_law_371 {G : GG} {b : Nat × Nat} {Z : LZ} {v1 v2 v3 s0 : Int} {h : Hp} (k : (inI (v3 + 1)) ∧ (0 ≤ (v3 + 1)) ∧ ((v3 + 1) < sL G) ∧ (inI (v3 + 2)) ∧ (0 ≤ (v3 + 2)) ∧ ((v3 + 2) < sL G) ∧ (h v2 (-1) = 11) ∧ Runs G mm_X10_lock [vR v2, vI (sX G (v3 + 1)), vI (sX G (v3 + 2))] h (fun r h' => AZ G mm_L_law b 385 [(0, vR (-1)), (1, vR v1), (2, vR v2), (3, vI v3)] (r.toList ++ [vI s0]) h' Z)) : AZ G mm_L_law b 371 [(0, vR (-1)), (1, vR v1), (2, vR v2), (3, vI v3)] [vI s0] h Z := by
  refine aw_aload_n 2 dL_law_371 rfl rfl ?_
  refine aw_aload_n 0 dL_law_372 rfl rfl ?_
  refine aw_iload_n 3 dL_law_373 rfl rfl ?_
  refine aw_iconst dL_law_374 ⟨by decide, by decide⟩ ?_
  obtain ⟨o1, k⟩ := k
  refine aw_iadd dL_law_375 o1 ?_
  obtain ⟨o2, k⟩ := k
  obtain ⟨o3, k⟩ := k
  refine aw_sld o2 o3 dL_law_376 ?_
  refine aw_aload_n 0 dL_law_377 rfl rfl ?_
  refine aw_iload_n 3 dL_law_378 rfl rfl ?_
  refine aw_iconst dL_law_379 ⟨by decide, by decide⟩ ?_
  obtain ⟨o4, k⟩ := k
  refine aw_iadd dL_law_380 o4 ?_
  obtain ⟨o5, k⟩ := k
  obtain ⟨o6, k⟩ := k
  refine aw_sld o5 o6 dL_law_381 ?_
  obtain ⟨o7, k⟩ := k
  refine aw_callV (M' := mm_X10_lock) 10 [vI (sX G (v3 + 1)), vI (sX G (v3 + 2))] [vI s0] lk_L_49 ⟨_, rfl, rfl⟩ dL_law_382 rfl (Nat.le_of_ble_eq_true rfl) ⟨by decide, by decide, Nat.zero_le _, Nat.zero_le _⟩ o7 ?_
  exact k
set_option maxRecDepth 20000 in
theorem sg_L_law_409 {G : GG} {b : Nat × Nat} {Z : LZ} {v1 v2 v3 s0 : Int} {h : Hp} (k : (inI (v3 + 1)) ∧ (0 ≤ (v3 + 1)) ∧ ((v3 + 1) < sL G) ∧ (inI (v3 + 2)) ∧ (0 ≤ (v3 + 2)) ∧ ((v3 + 2) < sL G) ∧ (inI (v3 + 3)) ∧ (0 ≤ (v3 + 3)) ∧ ((v3 + 3) < sL G) ∧ (h v2 (-1) = 11) ∧ Runs G mm_X10_door [vR v2, vI (sX G (v3 + 1)), vI (sX G (v3 + 2)), vI (sX G (v3 + 3))] h (fun r h' => AZ G mm_L_law b 428 [(0, vR (-1)), (1, vR v1), (2, vR v2), (3, vI v3)] (r.toList ++ [vI s0]) h' Z)) : AZ G mm_L_law b 409 [(0, vR (-1)), (1, vR v1), (2, vR v2), (3, vI v3)] [vI s0] h Z := by
  refine aw_aload_n 2 dL_law_409 rfl rfl ?_
  refine aw_aload_n 0 dL_law_410 rfl rfl ?_
  refine aw_iload_n 3 dL_law_411 rfl rfl ?_
  refine aw_iconst dL_law_412 ⟨by decide, by decide⟩ ?_
  obtain ⟨o1, k⟩ := k
  refine aw_iadd dL_law_413 o1 ?_
  obtain ⟨o2, k⟩ := k
  obtain ⟨o3, k⟩ := k
  refine aw_sld o2 o3 dL_law_414 ?_
  refine aw_aload_n 0 dL_law_415 rfl rfl ?_
  refine aw_iload_n 3 dL_law_416 rfl rfl ?_
  refine aw_iconst dL_law_417 ⟨by decide, by decide⟩ ?_
  obtain ⟨o4, k⟩ := k
  refine aw_iadd dL_law_418 o4 ?_
  obtain ⟨o5, k⟩ := k
  obtain ⟨o6, k⟩ := k
  refine aw_sld o5 o6 dL_law_419 ?_
  refine aw_aload_n 0 dL_law_420 rfl rfl ?_
  refine aw_iload_n 3 dL_law_421 rfl rfl ?_
  refine aw_iconst dL_law_422 ⟨by decide, by decide⟩ ?_
  obtain ⟨o7, k⟩ := k
  refine aw_iadd dL_law_423 o7 ?_
  obtain ⟨o8, k⟩ := k
  obtain ⟨o9, k⟩ := k
  refine aw_sld o8 o9 dL_law_424 ?_
  obtain ⟨o10, k⟩ := k
  refine aw_callV (M' := mm_X10_door) 10 [vI (sX G (v3 + 1)), vI (sX G (v3 + 2)), vI (sX G (v3 + 3))] [vI s0] lk_L_53 ⟨_, rfl, rfl⟩ dL_law_425 rfl (Nat.le_of_ble_eq_true rfl) ⟨by decide, by decide, Nat.zero_le _, Nat.zero_le _⟩ o10 ?_
  exact k
set_option maxRecDepth 20000 in
theorem sg_L_law_442 {G : GG} {b : Nat × Nat} {Z : LZ} {v1 v2 v3 s0 : Int} {h : Hp} (k : (inI (v3 + 1)) ∧ (0 ≤ (v3 + 1)) ∧ ((v3 + 1) < sL G) ∧ (h v2 (-1) = 11) ∧ Runs G mm_X10_join [vR v2, vI (sX G (v3 + 1))] h (fun r h' => AZ G mm_L_law b 451 [(0, vR (-1)), (1, vR v1), (2, vR v2), (3, vI v3)] (r.toList ++ [vI s0]) h' Z)) : AZ G mm_L_law b 442 [(0, vR (-1)), (1, vR v1), (2, vR v2), (3, vI v3)] [vI s0] h Z := by
  refine aw_aload_n 2 dL_law_442 rfl rfl ?_
  refine aw_aload_n 0 dL_law_443 rfl rfl ?_
  refine aw_iload_n 3 dL_law_444 rfl rfl ?_
  refine aw_iconst dL_law_445 ⟨by decide, by decide⟩ ?_
  obtain ⟨o1, k⟩ := k
  refine aw_iadd dL_law_446 o1 ?_
  obtain ⟨o2, k⟩ := k
  obtain ⟨o3, k⟩ := k
  refine aw_sld o2 o3 dL_law_447 ?_
  obtain ⟨o4, k⟩ := k
  refine aw_callV (M' := mm_X10_join) 10 [vI (sX G (v3 + 1))] [vI s0] lk_L_57 ⟨_, rfl, rfl⟩ dL_law_448 rfl (Nat.le_of_ble_eq_true rfl) ⟨by decide, by decide, Nat.zero_le _, Nat.zero_le _⟩ o4 ?_
  exact k
set_option maxRecDepth 20000 in
theorem sg_L_law_465 {G : GG} {b : Nat × Nat} {Z : LZ} {v1 v2 v3 s0 : Int} {h : Hp} (k : (inI (v3 + 1)) ∧ (0 ≤ (v3 + 1)) ∧ ((v3 + 1) < sL G) ∧ (h v2 (-1) = 11) ∧ Runs G mm_X10_tear [vR v2, vI (sX G (v3 + 1))] h (fun r h' => AZ G mm_L_law b 474 [(0, vR (-1)), (1, vR v1), (2, vR v2), (3, vI v3)] (r.toList ++ [vI s0]) h' Z)) : AZ G mm_L_law b 465 [(0, vR (-1)), (1, vR v1), (2, vR v2), (3, vI v3)] [vI s0] h Z := by
  refine aw_aload_n 2 dL_law_465 rfl rfl ?_
  refine aw_aload_n 0 dL_law_466 rfl rfl ?_
  refine aw_iload_n 3 dL_law_467 rfl rfl ?_
  refine aw_iconst dL_law_468 ⟨by decide, by decide⟩ ?_
  obtain ⟨o1, k⟩ := k
  refine aw_iadd dL_law_469 o1 ?_
  obtain ⟨o2, k⟩ := k
  obtain ⟨o3, k⟩ := k
  refine aw_sld o2 o3 dL_law_470 ?_
  obtain ⟨o4, k⟩ := k
  refine aw_callV (M' := mm_X10_tear) 10 [vI (sX G (v3 + 1))] [vI s0] lk_L_61 ⟨_, rfl, rfl⟩ dL_law_471 rfl (Nat.le_of_ble_eq_true rfl) ⟨by decide, by decide, Nat.zero_le _, Nat.zero_le _⟩ o4 ?_
  exact k
set_option maxRecDepth 20000 in
theorem sg_L_law_493 {G : GG} {b : Nat × Nat} {Z : LZ} {v1 v2 v3 s0 : Int} {h : Hp} (k : (inI (v3 + 1)) ∧ (0 ≤ (v3 + 1)) ∧ ((v3 + 1) < sL G) ∧ (inI (v3 + 2)) ∧ (0 ≤ (v3 + 2)) ∧ ((v3 + 2) < sL G) ∧ (h v2 (-1) = 11) ∧ Runs G mm_X10_delay [vR v2, vI (sX G (v3 + 1)), vI (sX G (v3 + 2))] h (fun r h' => AZ G mm_L_law b 507 [(0, vR (-1)), (1, vR v1), (2, vR v2), (3, vI v3)] (r.toList ++ [vI s0]) h' Z)) : AZ G mm_L_law b 493 [(0, vR (-1)), (1, vR v1), (2, vR v2), (3, vI v3)] [vI s0] h Z := by
  refine aw_aload_n 2 dL_law_493 rfl rfl ?_
  refine aw_aload_n 0 dL_law_494 rfl rfl ?_
  refine aw_iload_n 3 dL_law_495 rfl rfl ?_
  refine aw_iconst dL_law_496 ⟨by decide, by decide⟩ ?_
  obtain ⟨o1, k⟩ := k
  refine aw_iadd dL_law_497 o1 ?_
  obtain ⟨o2, k⟩ := k
  obtain ⟨o3, k⟩ := k
  refine aw_sld o2 o3 dL_law_498 ?_
  refine aw_aload_n 0 dL_law_499 rfl rfl ?_
  refine aw_iload_n 3 dL_law_500 rfl rfl ?_
  refine aw_iconst dL_law_501 ⟨by decide, by decide⟩ ?_
  obtain ⟨o4, k⟩ := k
  refine aw_iadd dL_law_502 o4 ?_
  obtain ⟨o5, k⟩ := k
  obtain ⟨o6, k⟩ := k
  refine aw_sld o5 o6 dL_law_503 ?_
  obtain ⟨o7, k⟩ := k
  refine aw_callV (M' := mm_X10_delay) 10 [vI (sX G (v3 + 1)), vI (sX G (v3 + 2))] [vI s0] lk_L_65 ⟨_, rfl, rfl⟩ dL_law_504 rfl (Nat.le_of_ble_eq_true rfl) ⟨by decide, by decide, Nat.zero_le _, Nat.zero_le _⟩ o7 ?_
  exact k
set_option maxRecDepth 20000 in
theorem sg_L_law_531 {G : GG} {b : Nat × Nat} {Z : LZ} {v1 v2 v3 s0 : Int} {h : Hp} (k : (inI (v3 + 1)) ∧ (0 ≤ (v3 + 1)) ∧ ((v3 + 1) < sL G) ∧ (inI (v3 + 2)) ∧ (0 ≤ (v3 + 2)) ∧ ((v3 + 2) < sL G) ∧ (inI (v3 + 3)) ∧ (0 ≤ (v3 + 3)) ∧ ((v3 + 3) < sL G) ∧ (h v2 (-1) = 11) ∧ Runs G mm_X10_aim [vR v2, vI (sX G (v3 + 1)), vI (sX G (v3 + 2)), vI (sX G (v3 + 3))] h (fun r h' => AZ G mm_L_law b 550 [(0, vR (-1)), (1, vR v1), (2, vR v2), (3, vI v3)] (r.toList ++ [vI s0]) h' Z)) : AZ G mm_L_law b 531 [(0, vR (-1)), (1, vR v1), (2, vR v2), (3, vI v3)] [vI s0] h Z := by
  refine aw_aload_n 2 dL_law_531 rfl rfl ?_
  refine aw_aload_n 0 dL_law_532 rfl rfl ?_
  refine aw_iload_n 3 dL_law_533 rfl rfl ?_
  refine aw_iconst dL_law_534 ⟨by decide, by decide⟩ ?_
  obtain ⟨o1, k⟩ := k
  refine aw_iadd dL_law_535 o1 ?_
  obtain ⟨o2, k⟩ := k
  obtain ⟨o3, k⟩ := k
  refine aw_sld o2 o3 dL_law_536 ?_
  refine aw_aload_n 0 dL_law_537 rfl rfl ?_
  refine aw_iload_n 3 dL_law_538 rfl rfl ?_
  refine aw_iconst dL_law_539 ⟨by decide, by decide⟩ ?_
  obtain ⟨o4, k⟩ := k
  refine aw_iadd dL_law_540 o4 ?_
  obtain ⟨o5, k⟩ := k
  obtain ⟨o6, k⟩ := k
  refine aw_sld o5 o6 dL_law_541 ?_
  refine aw_aload_n 0 dL_law_542 rfl rfl ?_
  refine aw_iload_n 3 dL_law_543 rfl rfl ?_
  refine aw_iconst dL_law_544 ⟨by decide, by decide⟩ ?_
  obtain ⟨o7, k⟩ := k
  refine aw_iadd dL_law_545 o7 ?_
  obtain ⟨o8, k⟩ := k
  obtain ⟨o9, k⟩ := k
  refine aw_sld o8 o9 dL_law_546 ?_
  obtain ⟨o10, k⟩ := k
  refine aw_callV (M' := mm_X10_aim) 10 [vI (sX G (v3 + 1)), vI (sX G (v3 + 2)), vI (sX G (v3 + 3))] [vI s0] lk_L_69 ⟨_, rfl, rfl⟩ dL_law_547 rfl (Nat.le_of_ble_eq_true rfl) ⟨by decide, by decide, Nat.zero_le _, Nat.zero_le _⟩ o10 ?_
  exact k
set_option maxRecDepth 20000 in
theorem sg_L_law_569 {G : GG} {b : Nat × Nat} {Z : LZ} {v1 v2 v3 s0 : Int} {h : Hp} (k : (inI (v3 + 1)) ∧ (0 ≤ (v3 + 1)) ∧ ((v3 + 1) < sL G) ∧ (inI (v3 + 2)) ∧ (0 ≤ (v3 + 2)) ∧ ((v3 + 2) < sL G) ∧ (h v2 (-1) = 11) ∧ Runs G mm_X10_send [vR v2, vI (sX G (v3 + 1)), vI (sX G (v3 + 2))] h (fun r h' => AZ G mm_L_law b 583 [(0, vR (-1)), (1, vR v1), (2, vR v2), (3, vI v3)] (r.toList ++ [vI s0]) h' Z)) : AZ G mm_L_law b 569 [(0, vR (-1)), (1, vR v1), (2, vR v2), (3, vI v3)] [vI s0] h Z := by
  refine aw_aload_n 2 dL_law_569 rfl rfl ?_
  refine aw_aload_n 0 dL_law_570 rfl rfl ?_
  refine aw_iload_n 3 dL_law_571 rfl rfl ?_
  refine aw_iconst dL_law_572 ⟨by decide, by decide⟩ ?_
  obtain ⟨o1, k⟩ := k
  refine aw_iadd dL_law_573 o1 ?_
  obtain ⟨o2, k⟩ := k
  obtain ⟨o3, k⟩ := k
  refine aw_sld o2 o3 dL_law_574 ?_
  refine aw_aload_n 0 dL_law_575 rfl rfl ?_
  refine aw_iload_n 3 dL_law_576 rfl rfl ?_
  refine aw_iconst dL_law_577 ⟨by decide, by decide⟩ ?_
  obtain ⟨o4, k⟩ := k
  refine aw_iadd dL_law_578 o4 ?_
  obtain ⟨o5, k⟩ := k
  obtain ⟨o6, k⟩ := k
  refine aw_sld o5 o6 dL_law_579 ?_
  obtain ⟨o7, k⟩ := k
  refine aw_callV (M' := mm_X10_send) 10 [vI (sX G (v3 + 1)), vI (sX G (v3 + 2))] [vI s0] lk_L_73 ⟨_, rfl, rfl⟩ dL_law_580 rfl (Nat.le_of_ble_eq_true rfl) ⟨by decide, by decide, Nat.zero_le _, Nat.zero_le _⟩ o7 ?_
  exact k
set_option maxRecDepth 20000 in
theorem sg_L_law_602 {G : GG} {b : Nat × Nat} {Z : LZ} {v1 v2 v3 s0 : Int} {h : Hp} (k : (inI (v3 + 1)) ∧ (0 ≤ (v3 + 1)) ∧ ((v3 + 1) < sL G) ∧ (inI (v3 + 2)) ∧ (0 ≤ (v3 + 2)) ∧ ((v3 + 2) < sL G) ∧ (h v2 (-1) = 11) ∧ Runs G mm_X10_store [vR v2, vI (sX G (v3 + 1)), vI (sX G (v3 + 2))] h (fun r h' => AZ G mm_L_law b 616 [(0, vR (-1)), (1, vR v1), (2, vR v2), (3, vI v3)] (r.toList ++ [vI s0]) h' Z)) : AZ G mm_L_law b 602 [(0, vR (-1)), (1, vR v1), (2, vR v2), (3, vI v3)] [vI s0] h Z := by
  refine aw_aload_n 2 dL_law_602 rfl rfl ?_
  refine aw_aload_n 0 dL_law_603 rfl rfl ?_
  refine aw_iload_n 3 dL_law_604 rfl rfl ?_
  refine aw_iconst dL_law_605 ⟨by decide, by decide⟩ ?_
  obtain ⟨o1, k⟩ := k
  refine aw_iadd dL_law_606 o1 ?_
  obtain ⟨o2, k⟩ := k
  obtain ⟨o3, k⟩ := k
  refine aw_sld o2 o3 dL_law_607 ?_
  refine aw_aload_n 0 dL_law_608 rfl rfl ?_
  refine aw_iload_n 3 dL_law_609 rfl rfl ?_
  refine aw_iconst dL_law_610 ⟨by decide, by decide⟩ ?_
  obtain ⟨o4, k⟩ := k
  refine aw_iadd dL_law_611 o4 ?_
  obtain ⟨o5, k⟩ := k
  obtain ⟨o6, k⟩ := k
  refine aw_sld o5 o6 dL_law_612 ?_
  obtain ⟨o7, k⟩ := k
  refine aw_callV (M' := mm_X10_store) 10 [vI (sX G (v3 + 1)), vI (sX G (v3 + 2))] [vI s0] lk_L_77 ⟨_, rfl, rfl⟩ dL_law_613 rfl (Nat.le_of_ble_eq_true rfl) ⟨by decide, by decide, Nat.zero_le _, Nat.zero_le _⟩ o7 ?_
  exact k
set_option maxRecDepth 20000 in
theorem sg_L_law_635 {G : GG} {b : Nat × Nat} {Z : LZ} {v1 v2 v3 s0 : Int} {h : Hp} (k : (inI (v3 + 1)) ∧ (0 ≤ (v3 + 1)) ∧ ((v3 + 1) < sL G) ∧ (inI (v3 + 2)) ∧ (0 ≤ (v3 + 2)) ∧ ((v3 + 2) < sL G) ∧ (h v2 (-1) = 11) ∧ Runs G mm_X10_read [vR v2, vI (sX G (v3 + 1)), vI (sX G (v3 + 2))] h (fun r h' => AZ G mm_L_law b 649 [(0, vR (-1)), (1, vR v1), (2, vR v2), (3, vI v3)] (r.toList ++ [vI s0]) h' Z)) : AZ G mm_L_law b 635 [(0, vR (-1)), (1, vR v1), (2, vR v2), (3, vI v3)] [vI s0] h Z := by
  refine aw_aload_n 2 dL_law_635 rfl rfl ?_
  refine aw_aload_n 0 dL_law_636 rfl rfl ?_
  refine aw_iload_n 3 dL_law_637 rfl rfl ?_
  refine aw_iconst dL_law_638 ⟨by decide, by decide⟩ ?_
  obtain ⟨o1, k⟩ := k
  refine aw_iadd dL_law_639 o1 ?_
  obtain ⟨o2, k⟩ := k
  obtain ⟨o3, k⟩ := k
  refine aw_sld o2 o3 dL_law_640 ?_
  refine aw_aload_n 0 dL_law_641 rfl rfl ?_
  refine aw_iload_n 3 dL_law_642 rfl rfl ?_
  refine aw_iconst dL_law_643 ⟨by decide, by decide⟩ ?_
  obtain ⟨o4, k⟩ := k
  refine aw_iadd dL_law_644 o4 ?_
  obtain ⟨o5, k⟩ := k
  obtain ⟨o6, k⟩ := k
  refine aw_sld o5 o6 dL_law_645 ?_
  obtain ⟨o7, k⟩ := k
  refine aw_callV (M' := mm_X10_read) 10 [vI (sX G (v3 + 1)), vI (sX G (v3 + 2))] [vI s0] lk_L_81 ⟨_, rfl, rfl⟩ dL_law_646 rfl (Nat.le_of_ble_eq_true rfl) ⟨by decide, by decide, Nat.zero_le _, Nat.zero_le _⟩ o7 ?_
  exact k
set_option maxRecDepth 20000 in
theorem sg_L_law_673 {G : GG} {b : Nat × Nat} {Z : LZ} {v1 v2 v3 s0 : Int} {h : Hp} (k : (inI (v3 + 1)) ∧ (0 ≤ (v3 + 1)) ∧ ((v3 + 1) < sL G) ∧ (inI (v3 + 2)) ∧ (0 ≤ (v3 + 2)) ∧ ((v3 + 2) < sL G) ∧ (inI (v3 + 3)) ∧ (0 ≤ (v3 + 3)) ∧ ((v3 + 3) < sL G) ∧ (h v2 (-1) = 11) ∧ Runs G mm_X10_add [vR v2, vI (sX G (v3 + 1)), vI (sX G (v3 + 2)), vI (sX G (v3 + 3))] h (fun r h' => AZ G mm_L_law b 692 [(0, vR (-1)), (1, vR v1), (2, vR v2), (3, vI v3)] (r.toList ++ [vI s0]) h' Z)) : AZ G mm_L_law b 673 [(0, vR (-1)), (1, vR v1), (2, vR v2), (3, vI v3)] [vI s0] h Z := by
  refine aw_aload_n 2 dL_law_673 rfl rfl ?_
  refine aw_aload_n 0 dL_law_674 rfl rfl ?_
  refine aw_iload_n 3 dL_law_675 rfl rfl ?_
  refine aw_iconst dL_law_676 ⟨by decide, by decide⟩ ?_
  obtain ⟨o1, k⟩ := k
  refine aw_iadd dL_law_677 o1 ?_
  obtain ⟨o2, k⟩ := k
  obtain ⟨o3, k⟩ := k
  refine aw_sld o2 o3 dL_law_678 ?_
  refine aw_aload_n 0 dL_law_679 rfl rfl ?_
  refine aw_iload_n 3 dL_law_680 rfl rfl ?_
  refine aw_iconst dL_law_681 ⟨by decide, by decide⟩ ?_
  obtain ⟨o4, k⟩ := k
  refine aw_iadd dL_law_682 o4 ?_
  obtain ⟨o5, k⟩ := k
  obtain ⟨o6, k⟩ := k
  refine aw_sld o5 o6 dL_law_683 ?_
  refine aw_aload_n 0 dL_law_684 rfl rfl ?_
  refine aw_iload_n 3 dL_law_685 rfl rfl ?_
  refine aw_iconst dL_law_686 ⟨by decide, by decide⟩ ?_
  obtain ⟨o7, k⟩ := k
  refine aw_iadd dL_law_687 o7 ?_
  obtain ⟨o8, k⟩ := k
  obtain ⟨o9, k⟩ := k
  refine aw_sld o8 o9 dL_law_688 ?_
  obtain ⟨o10, k⟩ := k
  refine aw_callV (M' := mm_X10_add) 10 [vI (sX G (v3 + 1)), vI (sX G (v3 + 2)), vI (sX G (v3 + 3))] [vI s0] lk_L_85 ⟨_, rfl, rfl⟩ dL_law_689 rfl (Nat.le_of_ble_eq_true rfl) ⟨by decide, by decide, Nat.zero_le _, Nat.zero_le _⟩ o10 ?_
  exact k
set_option maxRecDepth 20000 in
theorem sg_L_law_721 {G : GG} {b : Nat × Nat} {Z : LZ} {v1 v2 v3 s0 : Int} {h : Hp} (k : (inI (v3 + 1)) ∧ (0 ≤ (v3 + 1)) ∧ ((v3 + 1) < sL G) ∧ (inI (v3 + 2)) ∧ (0 ≤ (v3 + 2)) ∧ ((v3 + 2) < sL G) ∧ (inI (v3 + 3)) ∧ (0 ≤ (v3 + 3)) ∧ ((v3 + 3) < sL G) ∧ (inI (v3 + 4)) ∧ (0 ≤ (v3 + 4)) ∧ ((v3 + 4) < sL G) ∧ (h v2 (-1) = 11) ∧ Runs G mm_X10_swap [vR v2, vI (sX G (v3 + 1)), vI (sX G (v3 + 2)), vI (sX G (v3 + 3)), vI (sX G (v3 + 4))] h (fun r h' => AZ G mm_L_law b 745 [(0, vR (-1)), (1, vR v1), (2, vR v2), (3, vI v3)] (r.toList ++ [vI s0]) h' Z)) : AZ G mm_L_law b 721 [(0, vR (-1)), (1, vR v1), (2, vR v2), (3, vI v3)] [vI s0] h Z := by
  refine aw_aload_n 2 dL_law_721 rfl rfl ?_
  refine aw_aload_n 0 dL_law_722 rfl rfl ?_
  refine aw_iload_n 3 dL_law_723 rfl rfl ?_
  refine aw_iconst dL_law_724 ⟨by decide, by decide⟩ ?_
  obtain ⟨o1, k⟩ := k
  refine aw_iadd dL_law_725 o1 ?_
  obtain ⟨o2, k⟩ := k
  obtain ⟨o3, k⟩ := k
  refine aw_sld o2 o3 dL_law_726 ?_
  refine aw_aload_n 0 dL_law_727 rfl rfl ?_
  refine aw_iload_n 3 dL_law_728 rfl rfl ?_
  refine aw_iconst dL_law_729 ⟨by decide, by decide⟩ ?_
  obtain ⟨o4, k⟩ := k
  refine aw_iadd dL_law_730 o4 ?_
  obtain ⟨o5, k⟩ := k
  obtain ⟨o6, k⟩ := k
  refine aw_sld o5 o6 dL_law_731 ?_
  refine aw_aload_n 0 dL_law_732 rfl rfl ?_
  refine aw_iload_n 3 dL_law_733 rfl rfl ?_
  refine aw_iconst dL_law_734 ⟨by decide, by decide⟩ ?_
  obtain ⟨o7, k⟩ := k
  refine aw_iadd dL_law_735 o7 ?_
  obtain ⟨o8, k⟩ := k
  obtain ⟨o9, k⟩ := k
  refine aw_sld o8 o9 dL_law_736 ?_
  refine aw_aload_n 0 dL_law_737 rfl rfl ?_
  refine aw_iload_n 3 dL_law_738 rfl rfl ?_
  refine aw_iconst dL_law_739 ⟨by decide, by decide⟩ ?_
  obtain ⟨o10, k⟩ := k
  refine aw_iadd dL_law_740 o10 ?_
  obtain ⟨o11, k⟩ := k
  obtain ⟨o12, k⟩ := k
  refine aw_sld o11 o12 dL_law_741 ?_
  obtain ⟨o13, k⟩ := k
  refine aw_callV (M' := mm_X10_swap) 10 [vI (sX G (v3 + 1)), vI (sX G (v3 + 2)), vI (sX G (v3 + 3)), vI (sX G (v3 + 4))] [vI s0] lk_L_90 ⟨_, rfl, rfl⟩ dL_law_742 rfl (Nat.le_of_ble_eq_true rfl) ⟨by decide, by decide, Nat.zero_le _, Nat.zero_le _⟩ o13 ?_
  exact k
set_option maxRecDepth 20000 in
theorem sg_L_law_764 {G : GG} {b : Nat × Nat} {Z : LZ} {v1 v2 v3 s0 : Int} {h : Hp} (k : (inI (v3 + 1)) ∧ (0 ≤ (v3 + 1)) ∧ ((v3 + 1) < sL G) ∧ (inI (v3 + 2)) ∧ (0 ≤ (v3 + 2)) ∧ ((v3 + 2) < sL G) ∧ (h v2 (-1) = 11) ∧ Runs G mm_X10_receive [vR v2, vI (sX G (v3 + 1)), vI (sX G (v3 + 2))] h (fun r h' => AZ G mm_L_law b 778 [(0, vR (-1)), (1, vR v1), (2, vR v2), (3, vI v3)] (r.toList ++ [vI s0]) h' Z)) : AZ G mm_L_law b 764 [(0, vR (-1)), (1, vR v1), (2, vR v2), (3, vI v3)] [vI s0] h Z := by
  refine aw_aload_n 2 dL_law_764 rfl rfl ?_
  refine aw_aload_n 0 dL_law_765 rfl rfl ?_
  refine aw_iload_n 3 dL_law_766 rfl rfl ?_
  refine aw_iconst dL_law_767 ⟨by decide, by decide⟩ ?_
  obtain ⟨o1, k⟩ := k
  refine aw_iadd dL_law_768 o1 ?_
  obtain ⟨o2, k⟩ := k
  obtain ⟨o3, k⟩ := k
  refine aw_sld o2 o3 dL_law_769 ?_
  refine aw_aload_n 0 dL_law_770 rfl rfl ?_
  refine aw_iload_n 3 dL_law_771 rfl rfl ?_
  refine aw_iconst dL_law_772 ⟨by decide, by decide⟩ ?_
  obtain ⟨o4, k⟩ := k
  refine aw_iadd dL_law_773 o4 ?_
  obtain ⟨o5, k⟩ := k
  obtain ⟨o6, k⟩ := k
  refine aw_sld o5 o6 dL_law_774 ?_
  obtain ⟨o7, k⟩ := k
  refine aw_callV (M' := mm_X10_receive) 10 [vI (sX G (v3 + 1)), vI (sX G (v3 + 2))] [vI s0] lk_L_94 ⟨_, rfl, rfl⟩ dL_law_775 rfl (Nat.le_of_ble_eq_true rfl) ⟨by decide, by decide, Nat.zero_le _, Nat.zero_le _⟩ o7 ?_
  exact k
set_option maxRecDepth 20000 in
theorem sg_L_law_792 {G : GG} {b : Nat × Nat} {Z : LZ} {v1 v2 v3 s0 : Int} {h : Hp} (k : (inI (v3 + 1)) ∧ (0 ≤ (v3 + 1)) ∧ ((v3 + 1) < sL G) ∧ (h v2 (-1) = 11) ∧ Runs G mm_X10_step [vR v2, vI (sX G (v3 + 1))] h (fun r h' => AZ G mm_L_law b 801 [(0, vR (-1)), (1, vR v1), (2, vR v2), (3, vI v3)] (r.toList ++ [vI s0]) h' Z)) : AZ G mm_L_law b 792 [(0, vR (-1)), (1, vR v1), (2, vR v2), (3, vI v3)] [vI s0] h Z := by
  refine aw_aload_n 2 dL_law_792 rfl rfl ?_
  refine aw_aload_n 0 dL_law_793 rfl rfl ?_
  refine aw_iload_n 3 dL_law_794 rfl rfl ?_
  refine aw_iconst dL_law_795 ⟨by decide, by decide⟩ ?_
  obtain ⟨o1, k⟩ := k
  refine aw_iadd dL_law_796 o1 ?_
  obtain ⟨o2, k⟩ := k
  obtain ⟨o3, k⟩ := k
  refine aw_sld o2 o3 dL_law_797 ?_
  obtain ⟨o4, k⟩ := k
  refine aw_callV (M' := mm_X10_step) 10 [vI (sX G (v3 + 1))] [vI s0] lk_L_98 ⟨_, rfl, rfl⟩ dL_law_798 rfl (Nat.le_of_ble_eq_true rfl) ⟨by decide, by decide, Nat.zero_le _, Nat.zero_le _⟩ o4 ?_
  exact k
set_option maxRecDepth 20000 in
theorem sg_L_law_815 {G : GG} {b : Nat × Nat} {Z : LZ} {v1 v2 v3 s0 : Int} {h : Hp} (k : (inI (v3 + 1)) ∧ (0 ≤ (v3 + 1)) ∧ ((v3 + 1) < sL G) ∧ (h v2 (-1) = 11) ∧ Runs G mm_X10_tick [vR v2, vI (sX G (v3 + 1))] h (fun r h' => AZ G mm_L_law b 824 [(0, vR (-1)), (1, vR v1), (2, vR v2), (3, vI v3)] (r.toList ++ [vI s0]) h' Z)) : AZ G mm_L_law b 815 [(0, vR (-1)), (1, vR v1), (2, vR v2), (3, vI v3)] [vI s0] h Z := by
  refine aw_aload_n 2 dL_law_815 rfl rfl ?_
  refine aw_aload_n 0 dL_law_816 rfl rfl ?_
  refine aw_iload_n 3 dL_law_817 rfl rfl ?_
  refine aw_iconst dL_law_818 ⟨by decide, by decide⟩ ?_
  obtain ⟨o1, k⟩ := k
  refine aw_iadd dL_law_819 o1 ?_
  obtain ⟨o2, k⟩ := k
  obtain ⟨o3, k⟩ := k
  refine aw_sld o2 o3 dL_law_820 ?_
  obtain ⟨o4, k⟩ := k
  refine aw_callV (M' := mm_X10_tick) 10 [vI (sX G (v3 + 1))] [vI s0] lk_L_102 ⟨_, rfl, rfl⟩ dL_law_821 rfl (Nat.le_of_ble_eq_true rfl) ⟨by decide, by decide, Nat.zero_le _, Nat.zero_le _⟩ o4 ?_
  exact k
set_option maxRecDepth 20000 in
theorem sg_L_law_838 {G : GG} {b : Nat × Nat} {Z : LZ} {v1 v2 v3 s0 : Int} {h : Hp} (k : (inI (v3 + 1)) ∧ (0 ≤ (v3 + 1)) ∧ ((v3 + 1) < sL G) ∧ (h v2 (-1) = 11) ∧ Runs G mm_X10_take [vR v2, vI (sX G (v3 + 1))] h (fun r h' => AZ G mm_L_law b 847 [(0, vR (-1)), (1, vR v1), (2, vR v2), (3, vI v3)] (r.toList ++ [vI s0]) h' Z)) : AZ G mm_L_law b 838 [(0, vR (-1)), (1, vR v1), (2, vR v2), (3, vI v3)] [vI s0] h Z := by
  refine aw_aload_n 2 dL_law_838 rfl rfl ?_
  refine aw_aload_n 0 dL_law_839 rfl rfl ?_
  refine aw_iload_n 3 dL_law_840 rfl rfl ?_
  refine aw_iconst dL_law_841 ⟨by decide, by decide⟩ ?_
  obtain ⟨o1, k⟩ := k
  refine aw_iadd dL_law_842 o1 ?_
  obtain ⟨o2, k⟩ := k
  obtain ⟨o3, k⟩ := k
  refine aw_sld o2 o3 dL_law_843 ?_
  obtain ⟨o4, k⟩ := k
  refine aw_callV (M' := mm_X10_take) 10 [vI (sX G (v3 + 1))] [vI s0] lk_L_106 ⟨_, rfl, rfl⟩ dL_law_844 rfl (Nat.le_of_ble_eq_true rfl) ⟨by decide, by decide, Nat.zero_le _, Nat.zero_le _⟩ o4 ?_
  exact k
set_option maxRecDepth 20000 in
theorem sg_L_law_861 {G : GG} {b : Nat × Nat} {Z : LZ} {v1 v2 v3 s0 : Int} {h : Hp} (k : (inI (v3 + 1)) ∧ (0 ≤ (v3 + 1)) ∧ ((v3 + 1) < sL G) ∧ (h v2 (-1) = 11) ∧ Runs G mm_X10_taken [vR v2, vI (sX G (v3 + 1))] h (fun r h' => AZ G mm_L_law b 870 [(0, vR (-1)), (1, vR v1), (2, vR v2), (3, vI v3)] (r.toList ++ [vI s0]) h' Z)) : AZ G mm_L_law b 861 [(0, vR (-1)), (1, vR v1), (2, vR v2), (3, vI v3)] [vI s0] h Z := by
  refine aw_aload_n 2 dL_law_861 rfl rfl ?_
  refine aw_aload_n 0 dL_law_862 rfl rfl ?_
  refine aw_iload_n 3 dL_law_863 rfl rfl ?_
  refine aw_iconst dL_law_864 ⟨by decide, by decide⟩ ?_
  obtain ⟨o1, k⟩ := k
  refine aw_iadd dL_law_865 o1 ?_
  obtain ⟨o2, k⟩ := k
  obtain ⟨o3, k⟩ := k
  refine aw_sld o2 o3 dL_law_866 ?_
  obtain ⟨o4, k⟩ := k
  refine aw_callV (M' := mm_X10_taken) 10 [vI (sX G (v3 + 1))] [vI s0] lk_L_110 ⟨_, rfl, rfl⟩ dL_law_867 rfl (Nat.le_of_ble_eq_true rfl) ⟨by decide, by decide, Nat.zero_le _, Nat.zero_le _⟩ o4 ?_
  exact k
set_option maxRecDepth 20000 in
theorem sg_L_law_889 {G : GG} {b : Nat × Nat} {Z : LZ} {v1 v2 v3 s0 : Int} {h : Hp} (k : (inI (v3 + 1)) ∧ (0 ≤ (v3 + 1)) ∧ ((v3 + 1) < sL G) ∧ (inI (v3 + 2)) ∧ (0 ≤ (v3 + 2)) ∧ ((v3 + 2) < sL G) ∧ (h v2 (-1) = 11) ∧ Runs G mm_X10_end [vR v2, vI (sX G (v3 + 1)), vI (sX G (v3 + 2))] h (fun r h' => AZ G mm_L_law b 903 [(0, vR (-1)), (1, vR v1), (2, vR v2), (3, vI v3)] (r.toList ++ [vI s0]) h' Z)) : AZ G mm_L_law b 889 [(0, vR (-1)), (1, vR v1), (2, vR v2), (3, vI v3)] [vI s0] h Z := by
  refine aw_aload_n 2 dL_law_889 rfl rfl ?_
  refine aw_aload_n 0 dL_law_890 rfl rfl ?_
  refine aw_iload_n 3 dL_law_891 rfl rfl ?_
  refine aw_iconst dL_law_892 ⟨by decide, by decide⟩ ?_
  obtain ⟨o1, k⟩ := k
  refine aw_iadd dL_law_893 o1 ?_
  obtain ⟨o2, k⟩ := k
  obtain ⟨o3, k⟩ := k
  refine aw_sld o2 o3 dL_law_894 ?_
  refine aw_aload_n 0 dL_law_895 rfl rfl ?_
  refine aw_iload_n 3 dL_law_896 rfl rfl ?_
  refine aw_iconst dL_law_897 ⟨by decide, by decide⟩ ?_
  obtain ⟨o4, k⟩ := k
  refine aw_iadd dL_law_898 o4 ?_
  obtain ⟨o5, k⟩ := k
  obtain ⟨o6, k⟩ := k
  refine aw_sld o5 o6 dL_law_899 ?_
  obtain ⟨o7, k⟩ := k
  refine aw_callV (M' := mm_X10_end) 10 [vI (sX G (v3 + 1)), vI (sX G (v3 + 2))] [vI s0] lk_L_114 ⟨_, rfl, rfl⟩ dL_law_900 rfl (Nat.le_of_ble_eq_true rfl) ⟨by decide, by decide, Nat.zero_le _, Nat.zero_le _⟩ o7 ?_
  exact k
set_option maxRecDepth 20000 in
theorem sg_L_law_927 {G : GG} {b : Nat × Nat} {Z : LZ} {v1 v2 v3 s0 : Int} {h : Hp} (k : (inI (v3 + 1)) ∧ (0 ≤ (v3 + 1)) ∧ ((v3 + 1) < sL G) ∧ (inI (v3 + 2)) ∧ (0 ≤ (v3 + 2)) ∧ ((v3 + 2) < sL G) ∧ (inI (v3 + 3)) ∧ (0 ≤ (v3 + 3)) ∧ ((v3 + 3) < sL G) ∧ (h v2 (-1) = 11) ∧ Runs G mm_X10_open [vR v2, vI (sX G (v3 + 1)), vI (sX G (v3 + 2)), vI (sX G (v3 + 3))] h (fun r h' => AZ G mm_L_law b 946 [(0, vR (-1)), (1, vR v1), (2, vR v2), (3, vI v3)] (r.toList ++ [vI s0]) h' Z)) : AZ G mm_L_law b 927 [(0, vR (-1)), (1, vR v1), (2, vR v2), (3, vI v3)] [vI s0] h Z := by
  refine aw_aload_n 2 dL_law_927 rfl rfl ?_
  refine aw_aload_n 0 dL_law_928 rfl rfl ?_
  refine aw_iload_n 3 dL_law_929 rfl rfl ?_
  refine aw_iconst dL_law_930 ⟨by decide, by decide⟩ ?_
  obtain ⟨o1, k⟩ := k
  refine aw_iadd dL_law_931 o1 ?_
  obtain ⟨o2, k⟩ := k
  obtain ⟨o3, k⟩ := k
  refine aw_sld o2 o3 dL_law_932 ?_
  refine aw_aload_n 0 dL_law_933 rfl rfl ?_
  refine aw_iload_n 3 dL_law_934 rfl rfl ?_
  refine aw_iconst dL_law_935 ⟨by decide, by decide⟩ ?_
  obtain ⟨o4, k⟩ := k
  refine aw_iadd dL_law_936 o4 ?_
  obtain ⟨o5, k⟩ := k
  obtain ⟨o6, k⟩ := k
  refine aw_sld o5 o6 dL_law_937 ?_
  refine aw_aload_n 0 dL_law_938 rfl rfl ?_
  refine aw_iload_n 3 dL_law_939 rfl rfl ?_
  refine aw_iconst dL_law_940 ⟨by decide, by decide⟩ ?_
  obtain ⟨o7, k⟩ := k
  refine aw_iadd dL_law_941 o7 ?_
  obtain ⟨o8, k⟩ := k
  obtain ⟨o9, k⟩ := k
  refine aw_sld o8 o9 dL_law_942 ?_
  obtain ⟨o10, k⟩ := k
  refine aw_callV (M' := mm_X10_open) 10 [vI (sX G (v3 + 1)), vI (sX G (v3 + 2)), vI (sX G (v3 + 3))] [vI s0] lk_L_118 ⟨_, rfl, rfl⟩ dL_law_943 rfl (Nat.le_of_ble_eq_true rfl) ⟨by decide, by decide, Nat.zero_le _, Nat.zero_le _⟩ o10 ?_
  exact k
