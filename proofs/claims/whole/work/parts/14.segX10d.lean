/-! printed by writeseg.py: segments of methods -/
set_option maxRecDepth 20000 in
theorem sg_X10_lock_0 {G : GG} {b : Nat × Nat} {Q : Option VV → Hp → Prop} {v0 v1 v2 : Int} {h : Hp} (k : ((¬ (0 ≤ v1 ∧ v1 ≤ 1)) → Q (some (vI (-1001))) h) ∧ ((0 ≤ v1 ∧ v1 ≤ 1) → ((0 ≤ v2 ∧ v2 ≤ 3) → (h v0 (-1) = 11) ∧ (inI (4 * v1)) ∧ (inI ((4 * v1) + v2)) ∧ (h (h v0 2) (-1) = 20) ∧ (0 ≤ ((4 * v1) + v2)) ∧ (((4 * v1) + v2) < h (h v0 2) (-2)) ∧ ((¬ (h (h v0 2) ((4 * v1) + v2)) = 0) → ∀ h1, h1 = wr h (h v0 2) ((4 * v1) + v2) 0 → Runs G mm_X10_keysOf [vR v0, vI v1] h1 (fun r h' => AW G mm_X10_lock b 56 [] (r.toList ++ []) h' Q)) ∧ (((h (h v0 2) ((4 * v1) + v2)) = 0) → Q (some (vI (-1003))) h)) ∧ ((¬ (0 ≤ v2 ∧ v2 ≤ 3)) → Q (some (vI (-1001))) h))) : AW G mm_X10_lock b 0 [(0, vR v0), (1, vI v1), (2, vI v2)] [] h Q := by
  refine aw_iload_n 1 dX10_lock_0 rfl rfl ?_
  refine aw_callS (M' := mm_X10_isHost) [vI v1] [] lk_X10_194 dX10_lock_1 rfl (Nat.le_of_ble_eq_true rfl) ⟨by decide, by decide, Nat.zero_le _, Nat.zero_le _⟩ ?_
  refine pu_X10_isHost ?_
  refine aw_if_eq (tgt := 19) dX10_lock_4 (by decide) (fun hc => ?_) (fun hc => ?_)
  · have k := k.1 (b2i_0.mp hc)
    refine aw_sipush dX10_lock_19 ⟨by decide, by decide⟩ (by decide) ?_
    exact aw_iret dX10_lock_22 rfl k
  · have k := k.2 (b2i_n.mp hc)
    refine aw_iload_n 2 dX10_lock_7 rfl rfl ?_
    refine aw_i2l dX10_lock_8 ?_
    refine aw_lconst (x := 0) dX10_lock_9 ⟨by decide, by decide⟩ (by decide) ?_
    refine aw_ldc2 (x := 3) dX10_lock_10 ⟨by decide, by decide⟩ cl_X10_101 ?_
    refine aw_callS (M' := mm_X10_in) [vL v2, vL 0, vL 3] [] lk_X10_95 dX10_lock_13 rfl (Nat.le_of_ble_eq_true rfl) ⟨by decide, by decide, Nat.zero_le _, Nat.zero_le _⟩ ?_
    refine pu_X10_in ?_
    refine aw_if_ne (tgt := 23) dX10_lock_16 (by decide) (fun hc => ?_) (fun hc => ?_)
    · have k := k.1 (b2i_n.mp hc)
      refine aw_aload_n 0 dX10_lock_23 rfl rfl ?_
      obtain ⟨o1, k⟩ := k
      refine aw_getR dX10_lock_24 fl_X10_16 rfl o1 (x := (h v0 2)) rfl ?_
      refine aw_iconst dX10_lock_27 ⟨by decide, by decide⟩ ?_
      refine aw_iload_n 1 dX10_lock_28 rfl rfl ?_
      obtain ⟨o2, k⟩ := k
      refine aw_imul dX10_lock_29 o2 ?_
      refine aw_iload_n 2 dX10_lock_30 rfl rfl ?_
      obtain ⟨o3, k⟩ := k
      refine aw_iadd dX10_lock_31 o3 ?_
      obtain ⟨o4, k⟩ := k
      obtain ⟨o5, k⟩ := k
      obtain ⟨o6, k⟩ := k
      refine aw_iald dX10_lock_32 o4 o5 o6 (x := (h (h v0 2) ((4 * v1) + v2))) rfl ?_
      refine aw_if_ne (tgt := 40) dX10_lock_33 (by decide) (fun hc => ?_) (fun hc => ?_)
      · have k := k.1 hc
        refine aw_aload_n 0 dX10_lock_40 rfl rfl ?_
        refine aw_getR dX10_lock_41 fl_X10_16 rfl o1 (x := (h v0 2)) rfl ?_
        refine aw_iconst dX10_lock_44 ⟨by decide, by decide⟩ ?_
        refine aw_iload_n 1 dX10_lock_45 rfl rfl ?_
        refine aw_imul dX10_lock_46 o2 ?_
        refine aw_iload_n 2 dX10_lock_47 rfl rfl ?_
        refine aw_iadd dX10_lock_48 o3 ?_
        refine aw_iconst dX10_lock_49 ⟨by decide, by decide⟩ ?_
        refine aw_iast dX10_lock_50 o4 o5 o6 ?_
        refine aw_hp (fun h1 e7 => ?_)
        have k := k h1 e7
        refine aw_aload_n 0 dX10_lock_51 rfl rfl ?_
        refine aw_iload_n 1 dX10_lock_52 rfl rfl ?_
        have q8 := sh_w e7 o5 o1
        refine aw_callV (M' := mm_X10_keysOf) 10 [vI v1] [] lk_X10_205 ⟨_, rfl, rfl⟩ dX10_lock_53 rfl (Nat.le_of_ble_eq_true rfl) ⟨by decide, by decide, Nat.zero_le _, Nat.zero_le _⟩ q8 ?_
        exact k.mono (fun _ _ z => aw_sub [] rfl z)
      · have k := k.2 hc
        refine aw_sipush dX10_lock_36 ⟨by decide, by decide⟩ (by decide) ?_
        exact aw_iret dX10_lock_39 rfl k
    · have k := k.2 (b2i_0.mp hc)
      refine aw_sipush dX10_lock_19 ⟨by decide, by decide⟩ (by decide) ?_
      exact aw_iret dX10_lock_22 rfl k
theorem rn_X10_lock {G : GG} {Q : Option VV → Hp → Prop} {v0 v1 v2 : Int} {h : Hp} (k : ((¬ (0 ≤ v1 ∧ v1 ≤ 1)) → Q (some (vI (-1001))) h) ∧ ((0 ≤ v1 ∧ v1 ≤ 1) → ((0 ≤ v2 ∧ v2 ≤ 3) → (h v0 (-1) = 11) ∧ (inI (4 * v1)) ∧ (inI ((4 * v1) + v2)) ∧ (h (h v0 2) (-1) = 20) ∧ (0 ≤ ((4 * v1) + v2)) ∧ (((4 * v1) + v2) < h (h v0 2) (-2)) ∧ ((¬ (h (h v0 2) ((4 * v1) + v2)) = 0) → ∀ h1, h1 = wr h (h v0 2) ((4 * v1) + v2) 0 → Runs G mm_X10_keysOf [vR v0, vI v1] h1 (fun r h' => AW G mm_X10_lock (0, 0) 56 [] (r.toList ++ []) h' Q)) ∧ (((h (h v0 2) ((4 * v1) + v2)) = 0) → Q (some (vI (-1003))) h)) ∧ ((¬ (0 ≤ v2 ∧ v2 ≤ 3)) → Q (some (vI (-1001))) h))) : Runs G mm_X10_lock [vR v0, vI v1, vI v2] h Q := Runs.of (by decide +kernel) (Nat.le_of_ble_eq_true rfl) (sg_X10_lock_0 (b := (0, 0)) k)
set_option maxRecDepth 20000 in
theorem sg_X10_lock_56 {G : GG} {b : Nat × Nat} {Q : Option VV → Hp → Prop} {s0 : Int} {h : Hp} (k : Q (some (vI s0)) h) : AW G mm_X10_lock b 56 [] [vI s0] h Q := by
  exact aw_iret dX10_lock_56 rfl k
set_option maxRecDepth 20000 in
theorem sg_X10_next_0 {G : GG} {b : Nat × Nat} {Q : Option VV → Hp → Prop} {v0 : Int} {h : Hp} (k : (h v0 (-1) = 11) ∧ ∀ h1, h1 = wr h v0 32 (h v0 33) → AW G mm_X10_next b 8 [(0, vR v0)] [] h1 Q) : AW G mm_X10_next b 0 [(0, vR v0)] [] h Q := by
  refine aw_aload_n 0 dX10_next_0 rfl rfl ?_
  refine aw_aload_n 0 dX10_next_1 rfl rfl ?_
  obtain ⟨o1, k⟩ := k
  refine aw_getI dX10_next_2 fl_X10_139 rfl o1 (x := (h v0 33)) rfl ?_
  refine aw_putI dX10_next_5 fl_X10_142 (fun q hq hf => by cases hq; cases hf) rfl rfl o1 ?_
  refine aw_hp (fun h1 e2 => ?_)
  have k := k h1 e2
  exact k
theorem rn_X10_next {G : GG} {Q : Option VV → Hp → Prop} {v0 : Int} {h : Hp} (k : (h v0 (-1) = 11) ∧ ∀ h1, h1 = wr h v0 32 (h v0 33) → AW G mm_X10_next (0, 0) 8 [(0, vR v0)] [] h1 Q) : Runs G mm_X10_next [vR v0] h Q := Runs.of (by decide +kernel) (Nat.le_of_ble_eq_true rfl) (sg_X10_next_0 (b := (0, 0)) k)
set_option maxRecDepth 20000 in
theorem sg_X10_next_8 {G : GG} {b : Nat × Nat} {Q : Option VV → Hp → Prop} {v0 : Int} {h : Hp} (k : (h v0 (-1) = 11) ∧ (((h v0 31) ≤ (h v0 32)) → (((h v0 31) ≤ (h v0 32)) → ∀ h1, h1 = wr h v0 33 (h v0 32) → (((h v0 31) ≤ (h v0 32)) → (((h v0 31) ≤ (h v0 32)) → AW G mm_X10_next b 138 [(0, vR v0), (1, vI 0), (2, vI 0)] [] h1 Q) ∧ ((¬ ((h v0 31) ≤ (h v0 32))) → (h (h v0 30) (-1) = 20) ∧ (0 ≤ (h v0 32)) ∧ ((h v0 32) < h (h v0 30) (-2)) ∧ ((¬ (48 ≤ (h (h v0 30) (h v0 32)) ∧ (h (h v0 30) (h v0 32)) ≤ 57)) → AW G mm_X10_next b 138 [(0, vR v0), (1, vI 0), (2, vI 0)] [] h1 Q) ∧ ((48 ≤ (h (h v0 30) (h v0 32)) ∧ (h (h v0 30) (h v0 32)) ≤ 57) → AW G mm_X10_next b 138 [(0, vR v0), (1, vI 0), (2, vI 1)] [] h1 Q))) ∧ ((¬ ((h v0 31) ≤ (h v0 32))) → (h (h v0 30) (-1) = 20) ∧ (0 ≤ (h v0 32)) ∧ ((h v0 32) < h (h v0 30) (-2)) ∧ ((¬ (97 ≤ (h (h v0 30) (h v0 32)) ∧ (h (h v0 30) (h v0 32)) ≤ 122)) → (((h v0 31) ≤ (h v0 32)) → AW G mm_X10_next b 138 [(0, vR v0), (1, vI 0), (2, vI 0)] [] h1 Q) ∧ ((¬ ((h v0 31) ≤ (h v0 32))) → ((¬ (48 ≤ (h (h v0 30) (h v0 32)) ∧ (h (h v0 30) (h v0 32)) ≤ 57)) → AW G mm_X10_next b 138 [(0, vR v0), (1, vI 0), (2, vI 0)] [] h1 Q) ∧ ((48 ≤ (h (h v0 30) (h v0 32)) ∧ (h (h v0 30) (h v0 32)) ≤ 57) → AW G mm_X10_next b 138 [(0, vR v0), (1, vI 0), (2, vI 1)] [] h1 Q))) ∧ ((97 ≤ (h (h v0 30) (h v0 32)) ∧ (h (h v0 30) (h v0 32)) ≤ 122) → (((h v0 31) ≤ (h v0 32)) → AW G mm_X10_next b 138 [(0, vR v0), (1, vI 1), (2, vI 0)] [] h1 Q) ∧ ((¬ ((h v0 31) ≤ (h v0 32))) → ((¬ (48 ≤ (h (h v0 30) (h v0 32)) ∧ (h (h v0 30) (h v0 32)) ≤ 57)) → AW G mm_X10_next b 138 [(0, vR v0), (1, vI 1), (2, vI 0)] [] h1 Q) ∧ ((48 ≤ (h (h v0 30) (h v0 32)) ∧ (h (h v0 30) (h v0 32)) ≤ 57) → AW G mm_X10_next b 138 [(0, vR v0), (1, vI 1), (2, vI 1)] [] h1 Q))))) ∧ ((¬ ((h v0 31) ≤ (h v0 32))) → (inI ((h v0 32) + 1)) ∧ ∀ h1, h1 = wr h v0 33 ((h v0 32) + 1) → (((h v0 31) ≤ (h v0 32)) → (((h v0 31) ≤ (h v0 32)) → AW G mm_X10_next b 138 [(0, vR v0), (1, vI 0), (2, vI 0)] [] h1 Q) ∧ ((¬ ((h v0 31) ≤ (h v0 32))) → (h (h v0 30) (-1) = 20) ∧ (0 ≤ (h v0 32)) ∧ ((h v0 32) < h (h v0 30) (-2)) ∧ ((¬ (48 ≤ (h (h v0 30) (h v0 32)) ∧ (h (h v0 30) (h v0 32)) ≤ 57)) → AW G mm_X10_next b 138 [(0, vR v0), (1, vI 0), (2, vI 0)] [] h1 Q) ∧ ((48 ≤ (h (h v0 30) (h v0 32)) ∧ (h (h v0 30) (h v0 32)) ≤ 57) → AW G mm_X10_next b 138 [(0, vR v0), (1, vI 0), (2, vI 1)] [] h1 Q))) ∧ ((¬ ((h v0 31) ≤ (h v0 32))) → (h (h v0 30) (-1) = 20) ∧ (0 ≤ (h v0 32)) ∧ ((h v0 32) < h (h v0 30) (-2)) ∧ ((¬ (97 ≤ (h (h v0 30) (h v0 32)) ∧ (h (h v0 30) (h v0 32)) ≤ 122)) → (((h v0 31) ≤ (h v0 32)) → AW G mm_X10_next b 138 [(0, vR v0), (1, vI 0), (2, vI 0)] [] h1 Q) ∧ ((¬ ((h v0 31) ≤ (h v0 32))) → ((¬ (48 ≤ (h (h v0 30) (h v0 32)) ∧ (h (h v0 30) (h v0 32)) ≤ 57)) → AW G mm_X10_next b 138 [(0, vR v0), (1, vI 0), (2, vI 0)] [] h1 Q) ∧ ((48 ≤ (h (h v0 30) (h v0 32)) ∧ (h (h v0 30) (h v0 32)) ≤ 57) → AW G mm_X10_next b 138 [(0, vR v0), (1, vI 0), (2, vI 1)] [] h1 Q))) ∧ ((97 ≤ (h (h v0 30) (h v0 32)) ∧ (h (h v0 30) (h v0 32)) ≤ 122) → (((h v0 31) ≤ (h v0 32)) → AW G mm_X10_next b 138 [(0, vR v0), (1, vI 1), (2, vI 0)] [] h1 Q) ∧ ((¬ ((h v0 31) ≤ (h v0 32))) → ((¬ (48 ≤ (h (h v0 30) (h v0 32)) ∧ (h (h v0 30) (h v0 32)) ≤ 57)) → AW G mm_X10_next b 138 [(0, vR v0), (1, vI 1), (2, vI 0)] [] h1 Q) ∧ ((48 ≤ (h (h v0 30) (h v0 32)) ∧ (h (h v0 30) (h v0 32)) ≤ 57) → AW G mm_X10_next b 138 [(0, vR v0), (1, vI 1), (2, vI 1)] [] h1 Q)))))) ∧ ((¬ ((h v0 31) ≤ (h v0 32))) → (h (h v0 30) (-1) = 20) ∧ (0 ≤ (h v0 32)) ∧ ((h v0 32) < h (h v0 30) (-2)) ∧ ((¬ (h (h v0 30) (h v0 32)) = 32) → (((h v0 31) ≤ (h v0 32)) → ∀ h1, h1 = wr h v0 33 (h v0 32) → (((h v0 31) ≤ (h v0 32)) → (((h v0 31) ≤ (h v0 32)) → AW G mm_X10_next b 138 [(0, vR v0), (1, vI 0), (2, vI 0)] [] h1 Q) ∧ ((¬ ((h v0 31) ≤ (h v0 32))) → ((¬ (48 ≤ (h (h v0 30) (h v0 32)) ∧ (h (h v0 30) (h v0 32)) ≤ 57)) → AW G mm_X10_next b 138 [(0, vR v0), (1, vI 0), (2, vI 0)] [] h1 Q) ∧ ((48 ≤ (h (h v0 30) (h v0 32)) ∧ (h (h v0 30) (h v0 32)) ≤ 57) → AW G mm_X10_next b 138 [(0, vR v0), (1, vI 0), (2, vI 1)] [] h1 Q))) ∧ ((¬ ((h v0 31) ≤ (h v0 32))) → ((¬ (97 ≤ (h (h v0 30) (h v0 32)) ∧ (h (h v0 30) (h v0 32)) ≤ 122)) → (((h v0 31) ≤ (h v0 32)) → AW G mm_X10_next b 138 [(0, vR v0), (1, vI 0), (2, vI 0)] [] h1 Q) ∧ ((¬ ((h v0 31) ≤ (h v0 32))) → ((¬ (48 ≤ (h (h v0 30) (h v0 32)) ∧ (h (h v0 30) (h v0 32)) ≤ 57)) → AW G mm_X10_next b 138 [(0, vR v0), (1, vI 0), (2, vI 0)] [] h1 Q) ∧ ((48 ≤ (h (h v0 30) (h v0 32)) ∧ (h (h v0 30) (h v0 32)) ≤ 57) → AW G mm_X10_next b 138 [(0, vR v0), (1, vI 0), (2, vI 1)] [] h1 Q))) ∧ ((97 ≤ (h (h v0 30) (h v0 32)) ∧ (h (h v0 30) (h v0 32)) ≤ 122) → (((h v0 31) ≤ (h v0 32)) → AW G mm_X10_next b 138 [(0, vR v0), (1, vI 1), (2, vI 0)] [] h1 Q) ∧ ((¬ ((h v0 31) ≤ (h v0 32))) → ((¬ (48 ≤ (h (h v0 30) (h v0 32)) ∧ (h (h v0 30) (h v0 32)) ≤ 57)) → AW G mm_X10_next b 138 [(0, vR v0), (1, vI 1), (2, vI 0)] [] h1 Q) ∧ ((48 ≤ (h (h v0 30) (h v0 32)) ∧ (h (h v0 30) (h v0 32)) ≤ 57) → AW G mm_X10_next b 138 [(0, vR v0), (1, vI 1), (2, vI 1)] [] h1 Q))))) ∧ ((¬ ((h v0 31) ≤ (h v0 32))) → (inI ((h v0 32) + 1)) ∧ ∀ h1, h1 = wr h v0 33 ((h v0 32) + 1) → (((h v0 31) ≤ (h v0 32)) → (((h v0 31) ≤ (h v0 32)) → AW G mm_X10_next b 138 [(0, vR v0), (1, vI 0), (2, vI 0)] [] h1 Q) ∧ ((¬ ((h v0 31) ≤ (h v0 32))) → ((¬ (48 ≤ (h (h v0 30) (h v0 32)) ∧ (h (h v0 30) (h v0 32)) ≤ 57)) → AW G mm_X10_next b 138 [(0, vR v0), (1, vI 0), (2, vI 0)] [] h1 Q) ∧ ((48 ≤ (h (h v0 30) (h v0 32)) ∧ (h (h v0 30) (h v0 32)) ≤ 57) → AW G mm_X10_next b 138 [(0, vR v0), (1, vI 0), (2, vI 1)] [] h1 Q))) ∧ ((¬ ((h v0 31) ≤ (h v0 32))) → ((¬ (97 ≤ (h (h v0 30) (h v0 32)) ∧ (h (h v0 30) (h v0 32)) ≤ 122)) → (((h v0 31) ≤ (h v0 32)) → AW G mm_X10_next b 138 [(0, vR v0), (1, vI 0), (2, vI 0)] [] h1 Q) ∧ ((¬ ((h v0 31) ≤ (h v0 32))) → ((¬ (48 ≤ (h (h v0 30) (h v0 32)) ∧ (h (h v0 30) (h v0 32)) ≤ 57)) → AW G mm_X10_next b 138 [(0, vR v0), (1, vI 0), (2, vI 0)] [] h1 Q) ∧ ((48 ≤ (h (h v0 30) (h v0 32)) ∧ (h (h v0 30) (h v0 32)) ≤ 57) → AW G mm_X10_next b 138 [(0, vR v0), (1, vI 0), (2, vI 1)] [] h1 Q))) ∧ ((97 ≤ (h (h v0 30) (h v0 32)) ∧ (h (h v0 30) (h v0 32)) ≤ 122) → (((h v0 31) ≤ (h v0 32)) → AW G mm_X10_next b 138 [(0, vR v0), (1, vI 1), (2, vI 0)] [] h1 Q) ∧ ((¬ ((h v0 31) ≤ (h v0 32))) → ((¬ (48 ≤ (h (h v0 30) (h v0 32)) ∧ (h (h v0 30) (h v0 32)) ≤ 57)) → AW G mm_X10_next b 138 [(0, vR v0), (1, vI 1), (2, vI 0)] [] h1 Q) ∧ ((48 ≤ (h (h v0 30) (h v0 32)) ∧ (h (h v0 30) (h v0 32)) ≤ 57) → AW G mm_X10_next b 138 [(0, vR v0), (1, vI 1), (2, vI 1)] [] h1 Q)))))) ∧ (((h (h v0 30) (h v0 32)) = 32) → (inI ((h v0 32) + 1)) ∧ ∀ h1, h1 = wr h v0 32 ((h v0 32) + 1) → AW G mm_X10_next b 8 [(0, vR v0)] [] h1 Q))) : AW G mm_X10_next b 8 [(0, vR v0)] [] h Q := by
  refine aw_aload_n 0 dX10_next_8 rfl rfl ?_
  obtain ⟨o1, k⟩ := k
  refine aw_getI dX10_next_9 fl_X10_142 rfl o1 (x := (h v0 32)) rfl ?_
  refine aw_aload_n 0 dX10_next_12 rfl rfl ?_
  refine aw_getI dX10_next_13 fl_X10_128 rfl o1 (x := (h v0 31)) rfl ?_
  refine aw_icmp_ge (tgt := 46) dX10_next_16 (by decide) (fun hc => ?_) (fun hc => ?_)
  · have k := k.1 hc
    refine aw_aload_n 0 dX10_next_46 rfl rfl ?_
    refine aw_aload_n 0 dX10_next_47 rfl rfl ?_
    refine aw_getI dX10_next_48 fl_X10_142 rfl o1 (x := (h v0 32)) rfl ?_
    refine aw_aload_n 0 dX10_next_51 rfl rfl ?_
    refine aw_getI dX10_next_52 fl_X10_128 rfl o1 (x := (h v0 31)) rfl ?_
    refine aw_icmp_ge (tgt := 67) dX10_next_55 (by decide) (fun hc => ?_) (fun hc => ?_)
    · have k := k.1 hc
      refine aw_aload_n 0 dX10_next_67 rfl rfl ?_
      refine aw_getI dX10_next_68 fl_X10_142 rfl o1 (x := (h v0 32)) rfl ?_
      refine aw_putI dX10_next_71 fl_X10_139 (fun q hq hf => by cases hq; cases hf) rfl rfl o1 ?_
      refine aw_hp (fun h1 e2 => ?_)
      have k := k h1 e2
      refine aw_aload_n 0 dX10_next_74 rfl rfl ?_
      have q3 := sh_w e2 (by decide) o1
      refine aw_getI dX10_next_75 fl_X10_142 rfl q3 (x := (h v0 32)) (rd_k e2 32 (by decide)) ?_
      refine aw_aload_n 0 dX10_next_78 rfl rfl ?_
      refine aw_getI dX10_next_79 fl_X10_128 rfl q3 (x := (h v0 31)) (rd_k e2 31 (by decide)) ?_
      refine aw_icmp_ge (tgt := 104) dX10_next_82 (by decide) (fun hc => ?_) (fun hc => ?_)
      · have k := k.1 hc
        refine aw_iconst dX10_next_104 ⟨by decide, by decide⟩ ?_
        refine aw_istore_n dX10_next_105 rfl (by decide) ?_
        refine aw_aload_n 1 dX10_next_106 rfl rfl ?_
        refine aw_getI dX10_next_107 fl_X10_142 rfl q3 (x := (h v0 32)) (rd_k e2 32 (by decide)) ?_
        refine aw_aload_n 1 dX10_next_110 rfl rfl ?_
        refine aw_getI dX10_next_111 fl_X10_128 rfl q3 (x := (h v0 31)) (rd_k e2 31 (by decide)) ?_
        refine aw_icmp_ge (tgt := 136) dX10_next_114 (by decide) (fun hc => ?_) (fun hc => ?_)
        · have k := k.1 hc
          refine aw_iconst dX10_next_136 ⟨by decide, by decide⟩ ?_
          refine aw_istore_n dX10_next_137 rfl (by decide) ?_
          exact aw_sub [2, 1, 0] rfl k
        · have k := k.2 hc
          refine aw_aload_n 1 dX10_next_117 rfl rfl ?_
          refine aw_getR dX10_next_118 fl_X10_83 rfl q3 (x := (h v0 30)) (rd_k e2 30 (by decide)) ?_
          refine aw_aload_n 1 dX10_next_121 rfl rfl ?_
          refine aw_getI dX10_next_122 fl_X10_142 rfl q3 (x := (h v0 32)) (rd_k e2 32 (by decide)) ?_
          obtain ⟨o4, k⟩ := k
          obtain ⟨o5, k⟩ := k
          obtain ⟨o6, k⟩ := k
          have q7 := sh_w e2 (by decide) o4
          refine aw_iald dX10_next_125 q7 o5 (lt_l (ln_w e2 (h v0 30) (by decide)) o6) (x := (h (h v0 30) (h v0 32))) (rd_a e2 (h v0 30) (h v0 32) (ne_sh o1 o4 (by decide))) ?_
          refine aw_callS (M' := mm_X10_isDigit) [vI (h (h v0 30) (h v0 32))] [] lk_X10_149 dX10_next_126 rfl (Nat.le_of_ble_eq_true rfl) ⟨by decide, by decide, Nat.zero_le _, Nat.zero_le _⟩ ?_
          refine pu_X10_isDigit ?_
          refine aw_if_eq (tgt := 136) dX10_next_129 (by decide) (fun hc => ?_) (fun hc => ?_)
          · have k := k.1 (b2i_0.mp hc)
            refine aw_iconst dX10_next_136 ⟨by decide, by decide⟩ ?_
            refine aw_istore_n dX10_next_137 rfl (by decide) ?_
            exact aw_sub [2, 1, 0] rfl k
          · have k := k.2 (b2i_n.mp hc)
            refine aw_iconst dX10_next_132 ⟨by decide, by decide⟩ ?_
            refine aw_goto (tgt := 137) dX10_next_133 (by decide) ?_
            refine aw_istore_n dX10_next_137 rfl (by decide) ?_
            exact aw_sub [2, 1, 0] rfl k
      · have k := k.2 hc
        refine aw_aload_n 0 dX10_next_85 rfl rfl ?_
        refine aw_getR dX10_next_86 fl_X10_83 rfl q3 (x := (h v0 30)) (rd_k e2 30 (by decide)) ?_
        refine aw_aload_n 0 dX10_next_89 rfl rfl ?_
        refine aw_getI dX10_next_90 fl_X10_142 rfl q3 (x := (h v0 32)) (rd_k e2 32 (by decide)) ?_
        obtain ⟨o8, k⟩ := k
        obtain ⟨o9, k⟩ := k
        obtain ⟨o10, k⟩ := k
        have q11 := sh_w e2 (by decide) o8
        refine aw_iald dX10_next_93 q11 o9 (lt_l (ln_w e2 (h v0 30) (by decide)) o10) (x := (h (h v0 30) (h v0 32))) (rd_a e2 (h v0 30) (h v0 32) (ne_sh o1 o8 (by decide))) ?_
        refine aw_callS (M' := mm_X10_isSmall) [vI (h (h v0 30) (h v0 32))] [] lk_X10_145 dX10_next_94 rfl (Nat.le_of_ble_eq_true rfl) ⟨by decide, by decide, Nat.zero_le _, Nat.zero_le _⟩ ?_
        refine pu_X10_isSmall ?_
        refine aw_if_eq (tgt := 104) dX10_next_97 (by decide) (fun hc => ?_) (fun hc => ?_)
        · have k := k.1 (b2i_0.mp hc)
          refine aw_iconst dX10_next_104 ⟨by decide, by decide⟩ ?_
          refine aw_istore_n dX10_next_105 rfl (by decide) ?_
          refine aw_aload_n 1 dX10_next_106 rfl rfl ?_
          refine aw_getI dX10_next_107 fl_X10_142 rfl q3 (x := (h v0 32)) (rd_k e2 32 (by decide)) ?_
          refine aw_aload_n 1 dX10_next_110 rfl rfl ?_
          refine aw_getI dX10_next_111 fl_X10_128 rfl q3 (x := (h v0 31)) (rd_k e2 31 (by decide)) ?_
          refine aw_icmp_ge (tgt := 136) dX10_next_114 (by decide) (fun hc => ?_) (fun hc => ?_)
          · have k := k.1 hc
            refine aw_iconst dX10_next_136 ⟨by decide, by decide⟩ ?_
            refine aw_istore_n dX10_next_137 rfl (by decide) ?_
            exact aw_sub [2, 1, 0] rfl k
          · have k := k.2 hc
            refine aw_aload_n 1 dX10_next_117 rfl rfl ?_
            refine aw_getR dX10_next_118 fl_X10_83 rfl q3 (x := (h v0 30)) (rd_k e2 30 (by decide)) ?_
            refine aw_aload_n 1 dX10_next_121 rfl rfl ?_
            refine aw_getI dX10_next_122 fl_X10_142 rfl q3 (x := (h v0 32)) (rd_k e2 32 (by decide)) ?_
            refine aw_iald dX10_next_125 q11 o9 (lt_l (ln_w e2 (h v0 30) (by decide)) o10) (x := (h (h v0 30) (h v0 32))) (rd_a e2 (h v0 30) (h v0 32) (ne_sh o1 o8 (by decide))) ?_
            refine aw_callS (M' := mm_X10_isDigit) [vI (h (h v0 30) (h v0 32))] [] lk_X10_149 dX10_next_126 rfl (Nat.le_of_ble_eq_true rfl) ⟨by decide, by decide, Nat.zero_le _, Nat.zero_le _⟩ ?_
            refine pu_X10_isDigit ?_
            refine aw_if_eq (tgt := 136) dX10_next_129 (by decide) (fun hc => ?_) (fun hc => ?_)
            · have k := k.1 (b2i_0.mp hc)
              refine aw_iconst dX10_next_136 ⟨by decide, by decide⟩ ?_
              refine aw_istore_n dX10_next_137 rfl (by decide) ?_
              exact aw_sub [2, 1, 0] rfl k
            · have k := k.2 (b2i_n.mp hc)
              refine aw_iconst dX10_next_132 ⟨by decide, by decide⟩ ?_
              refine aw_goto (tgt := 137) dX10_next_133 (by decide) ?_
              refine aw_istore_n dX10_next_137 rfl (by decide) ?_
              exact aw_sub [2, 1, 0] rfl k
        · have k := k.2 (b2i_n.mp hc)
          refine aw_iconst dX10_next_100 ⟨by decide, by decide⟩ ?_
          refine aw_goto (tgt := 105) dX10_next_101 (by decide) ?_
          refine aw_istore_n dX10_next_105 rfl (by decide) ?_
          refine aw_aload_n 1 dX10_next_106 rfl rfl ?_
          refine aw_getI dX10_next_107 fl_X10_142 rfl q3 (x := (h v0 32)) (rd_k e2 32 (by decide)) ?_
          refine aw_aload_n 1 dX10_next_110 rfl rfl ?_
          refine aw_getI dX10_next_111 fl_X10_128 rfl q3 (x := (h v0 31)) (rd_k e2 31 (by decide)) ?_
          refine aw_icmp_ge (tgt := 136) dX10_next_114 (by decide) (fun hc => ?_) (fun hc => ?_)
          · have k := k.1 hc
            refine aw_iconst dX10_next_136 ⟨by decide, by decide⟩ ?_
            refine aw_istore_n dX10_next_137 rfl (by decide) ?_
            exact aw_sub [2, 1, 0] rfl k
          · have k := k.2 hc
            refine aw_aload_n 1 dX10_next_117 rfl rfl ?_
            refine aw_getR dX10_next_118 fl_X10_83 rfl q3 (x := (h v0 30)) (rd_k e2 30 (by decide)) ?_
            refine aw_aload_n 1 dX10_next_121 rfl rfl ?_
            refine aw_getI dX10_next_122 fl_X10_142 rfl q3 (x := (h v0 32)) (rd_k e2 32 (by decide)) ?_
            refine aw_iald dX10_next_125 q11 o9 (lt_l (ln_w e2 (h v0 30) (by decide)) o10) (x := (h (h v0 30) (h v0 32))) (rd_a e2 (h v0 30) (h v0 32) (ne_sh o1 o8 (by decide))) ?_
            refine aw_callS (M' := mm_X10_isDigit) [vI (h (h v0 30) (h v0 32))] [] lk_X10_149 dX10_next_126 rfl (Nat.le_of_ble_eq_true rfl) ⟨by decide, by decide, Nat.zero_le _, Nat.zero_le _⟩ ?_
            refine pu_X10_isDigit ?_
            refine aw_if_eq (tgt := 136) dX10_next_129 (by decide) (fun hc => ?_) (fun hc => ?_)
            · have k := k.1 (b2i_0.mp hc)
              refine aw_iconst dX10_next_136 ⟨by decide, by decide⟩ ?_
              refine aw_istore_n dX10_next_137 rfl (by decide) ?_
              exact aw_sub [2, 1, 0] rfl k
            · have k := k.2 (b2i_n.mp hc)
              refine aw_iconst dX10_next_132 ⟨by decide, by decide⟩ ?_
              refine aw_goto (tgt := 137) dX10_next_133 (by decide) ?_
              refine aw_istore_n dX10_next_137 rfl (by decide) ?_
              exact aw_sub [2, 1, 0] rfl k
    · have k := k.2 hc
      refine aw_aload_n 0 dX10_next_58 rfl rfl ?_
      refine aw_getI dX10_next_59 fl_X10_142 rfl o1 (x := (h v0 32)) rfl ?_
      refine aw_iconst dX10_next_62 ⟨by decide, by decide⟩ ?_
      obtain ⟨o12, k⟩ := k
      refine aw_iadd dX10_next_63 o12 ?_
      refine aw_goto (tgt := 71) dX10_next_64 (by decide) ?_
      refine aw_putI dX10_next_71 fl_X10_139 (fun q hq hf => by cases hq; cases hf) rfl rfl o1 ?_
      refine aw_hp (fun h1 e13 => ?_)
      have k := k h1 e13
      refine aw_aload_n 0 dX10_next_74 rfl rfl ?_
      have q14 := sh_w e13 (by decide) o1
      refine aw_getI dX10_next_75 fl_X10_142 rfl q14 (x := (h v0 32)) (rd_k e13 32 (by decide)) ?_
      refine aw_aload_n 0 dX10_next_78 rfl rfl ?_
      refine aw_getI dX10_next_79 fl_X10_128 rfl q14 (x := (h v0 31)) (rd_k e13 31 (by decide)) ?_
      refine aw_icmp_ge (tgt := 104) dX10_next_82 (by decide) (fun hc => ?_) (fun hc => ?_)
      · have k := k.1 hc
        refine aw_iconst dX10_next_104 ⟨by decide, by decide⟩ ?_
        refine aw_istore_n dX10_next_105 rfl (by decide) ?_
        refine aw_aload_n 1 dX10_next_106 rfl rfl ?_
        refine aw_getI dX10_next_107 fl_X10_142 rfl q14 (x := (h v0 32)) (rd_k e13 32 (by decide)) ?_
        refine aw_aload_n 1 dX10_next_110 rfl rfl ?_
        refine aw_getI dX10_next_111 fl_X10_128 rfl q14 (x := (h v0 31)) (rd_k e13 31 (by decide)) ?_
        refine aw_icmp_ge (tgt := 136) dX10_next_114 (by decide) (fun hc => ?_) (fun hc => ?_)
        · have k := k.1 hc
          refine aw_iconst dX10_next_136 ⟨by decide, by decide⟩ ?_
          refine aw_istore_n dX10_next_137 rfl (by decide) ?_
          exact aw_sub [2, 1, 0] rfl k
        · have k := k.2 hc
          refine aw_aload_n 1 dX10_next_117 rfl rfl ?_
          refine aw_getR dX10_next_118 fl_X10_83 rfl q14 (x := (h v0 30)) (rd_k e13 30 (by decide)) ?_
          refine aw_aload_n 1 dX10_next_121 rfl rfl ?_
          refine aw_getI dX10_next_122 fl_X10_142 rfl q14 (x := (h v0 32)) (rd_k e13 32 (by decide)) ?_
          obtain ⟨o15, k⟩ := k
          obtain ⟨o16, k⟩ := k
          obtain ⟨o17, k⟩ := k
          have q18 := sh_w e13 (by decide) o15
          refine aw_iald dX10_next_125 q18 o16 (lt_l (ln_w e13 (h v0 30) (by decide)) o17) (x := (h (h v0 30) (h v0 32))) (rd_a e13 (h v0 30) (h v0 32) (ne_sh o1 o15 (by decide))) ?_
          refine aw_callS (M' := mm_X10_isDigit) [vI (h (h v0 30) (h v0 32))] [] lk_X10_149 dX10_next_126 rfl (Nat.le_of_ble_eq_true rfl) ⟨by decide, by decide, Nat.zero_le _, Nat.zero_le _⟩ ?_
          refine pu_X10_isDigit ?_
          refine aw_if_eq (tgt := 136) dX10_next_129 (by decide) (fun hc => ?_) (fun hc => ?_)
          · have k := k.1 (b2i_0.mp hc)
            refine aw_iconst dX10_next_136 ⟨by decide, by decide⟩ ?_
            refine aw_istore_n dX10_next_137 rfl (by decide) ?_
            exact aw_sub [2, 1, 0] rfl k
          · have k := k.2 (b2i_n.mp hc)
            refine aw_iconst dX10_next_132 ⟨by decide, by decide⟩ ?_
            refine aw_goto (tgt := 137) dX10_next_133 (by decide) ?_
            refine aw_istore_n dX10_next_137 rfl (by decide) ?_
            exact aw_sub [2, 1, 0] rfl k
      · have k := k.2 hc
        refine aw_aload_n 0 dX10_next_85 rfl rfl ?_
        refine aw_getR dX10_next_86 fl_X10_83 rfl q14 (x := (h v0 30)) (rd_k e13 30 (by decide)) ?_
        refine aw_aload_n 0 dX10_next_89 rfl rfl ?_
        refine aw_getI dX10_next_90 fl_X10_142 rfl q14 (x := (h v0 32)) (rd_k e13 32 (by decide)) ?_
        obtain ⟨o19, k⟩ := k
        obtain ⟨o20, k⟩ := k
        obtain ⟨o21, k⟩ := k
        have q22 := sh_w e13 (by decide) o19
        refine aw_iald dX10_next_93 q22 o20 (lt_l (ln_w e13 (h v0 30) (by decide)) o21) (x := (h (h v0 30) (h v0 32))) (rd_a e13 (h v0 30) (h v0 32) (ne_sh o1 o19 (by decide))) ?_
        refine aw_callS (M' := mm_X10_isSmall) [vI (h (h v0 30) (h v0 32))] [] lk_X10_145 dX10_next_94 rfl (Nat.le_of_ble_eq_true rfl) ⟨by decide, by decide, Nat.zero_le _, Nat.zero_le _⟩ ?_
        refine pu_X10_isSmall ?_
        refine aw_if_eq (tgt := 104) dX10_next_97 (by decide) (fun hc => ?_) (fun hc => ?_)
        · have k := k.1 (b2i_0.mp hc)
          refine aw_iconst dX10_next_104 ⟨by decide, by decide⟩ ?_
          refine aw_istore_n dX10_next_105 rfl (by decide) ?_
          refine aw_aload_n 1 dX10_next_106 rfl rfl ?_
          refine aw_getI dX10_next_107 fl_X10_142 rfl q14 (x := (h v0 32)) (rd_k e13 32 (by decide)) ?_
          refine aw_aload_n 1 dX10_next_110 rfl rfl ?_
          refine aw_getI dX10_next_111 fl_X10_128 rfl q14 (x := (h v0 31)) (rd_k e13 31 (by decide)) ?_
          refine aw_icmp_ge (tgt := 136) dX10_next_114 (by decide) (fun hc => ?_) (fun hc => ?_)
          · have k := k.1 hc
            refine aw_iconst dX10_next_136 ⟨by decide, by decide⟩ ?_
            refine aw_istore_n dX10_next_137 rfl (by decide) ?_
            exact aw_sub [2, 1, 0] rfl k
          · have k := k.2 hc
            refine aw_aload_n 1 dX10_next_117 rfl rfl ?_
            refine aw_getR dX10_next_118 fl_X10_83 rfl q14 (x := (h v0 30)) (rd_k e13 30 (by decide)) ?_
            refine aw_aload_n 1 dX10_next_121 rfl rfl ?_
            refine aw_getI dX10_next_122 fl_X10_142 rfl q14 (x := (h v0 32)) (rd_k e13 32 (by decide)) ?_
            refine aw_iald dX10_next_125 q22 o20 (lt_l (ln_w e13 (h v0 30) (by decide)) o21) (x := (h (h v0 30) (h v0 32))) (rd_a e13 (h v0 30) (h v0 32) (ne_sh o1 o19 (by decide))) ?_
            refine aw_callS (M' := mm_X10_isDigit) [vI (h (h v0 30) (h v0 32))] [] lk_X10_149 dX10_next_126 rfl (Nat.le_of_ble_eq_true rfl) ⟨by decide, by decide, Nat.zero_le _, Nat.zero_le _⟩ ?_
            refine pu_X10_isDigit ?_
            refine aw_if_eq (tgt := 136) dX10_next_129 (by decide) (fun hc => ?_) (fun hc => ?_)
            · have k := k.1 (b2i_0.mp hc)
              refine aw_iconst dX10_next_136 ⟨by decide, by decide⟩ ?_
              refine aw_istore_n dX10_next_137 rfl (by decide) ?_
              exact aw_sub [2, 1, 0] rfl k
            · have k := k.2 (b2i_n.mp hc)
              refine aw_iconst dX10_next_132 ⟨by decide, by decide⟩ ?_
              refine aw_goto (tgt := 137) dX10_next_133 (by decide) ?_
              refine aw_istore_n dX10_next_137 rfl (by decide) ?_
              exact aw_sub [2, 1, 0] rfl k
        · have k := k.2 (b2i_n.mp hc)
          refine aw_iconst dX10_next_100 ⟨by decide, by decide⟩ ?_
          refine aw_goto (tgt := 105) dX10_next_101 (by decide) ?_
          refine aw_istore_n dX10_next_105 rfl (by decide) ?_
          refine aw_aload_n 1 dX10_next_106 rfl rfl ?_
          refine aw_getI dX10_next_107 fl_X10_142 rfl q14 (x := (h v0 32)) (rd_k e13 32 (by decide)) ?_
          refine aw_aload_n 1 dX10_next_110 rfl rfl ?_
          refine aw_getI dX10_next_111 fl_X10_128 rfl q14 (x := (h v0 31)) (rd_k e13 31 (by decide)) ?_
          refine aw_icmp_ge (tgt := 136) dX10_next_114 (by decide) (fun hc => ?_) (fun hc => ?_)
          · have k := k.1 hc
            refine aw_iconst dX10_next_136 ⟨by decide, by decide⟩ ?_
            refine aw_istore_n dX10_next_137 rfl (by decide) ?_
            exact aw_sub [2, 1, 0] rfl k
          · have k := k.2 hc
            refine aw_aload_n 1 dX10_next_117 rfl rfl ?_
            refine aw_getR dX10_next_118 fl_X10_83 rfl q14 (x := (h v0 30)) (rd_k e13 30 (by decide)) ?_
            refine aw_aload_n 1 dX10_next_121 rfl rfl ?_
            refine aw_getI dX10_next_122 fl_X10_142 rfl q14 (x := (h v0 32)) (rd_k e13 32 (by decide)) ?_
            refine aw_iald dX10_next_125 q22 o20 (lt_l (ln_w e13 (h v0 30) (by decide)) o21) (x := (h (h v0 30) (h v0 32))) (rd_a e13 (h v0 30) (h v0 32) (ne_sh o1 o19 (by decide))) ?_
            refine aw_callS (M' := mm_X10_isDigit) [vI (h (h v0 30) (h v0 32))] [] lk_X10_149 dX10_next_126 rfl (Nat.le_of_ble_eq_true rfl) ⟨by decide, by decide, Nat.zero_le _, Nat.zero_le _⟩ ?_
            refine pu_X10_isDigit ?_
            refine aw_if_eq (tgt := 136) dX10_next_129 (by decide) (fun hc => ?_) (fun hc => ?_)
            · have k := k.1 (b2i_0.mp hc)
              refine aw_iconst dX10_next_136 ⟨by decide, by decide⟩ ?_
              refine aw_istore_n dX10_next_137 rfl (by decide) ?_
              exact aw_sub [2, 1, 0] rfl k
            · have k := k.2 (b2i_n.mp hc)
              refine aw_iconst dX10_next_132 ⟨by decide, by decide⟩ ?_
              refine aw_goto (tgt := 137) dX10_next_133 (by decide) ?_
              refine aw_istore_n dX10_next_137 rfl (by decide) ?_
              exact aw_sub [2, 1, 0] rfl k
  · have k := k.2 hc
    refine aw_aload_n 0 dX10_next_19 rfl rfl ?_
    refine aw_getR dX10_next_20 fl_X10_83 rfl o1 (x := (h v0 30)) rfl ?_
    refine aw_aload_n 0 dX10_next_23 rfl rfl ?_
    refine aw_getI dX10_next_24 fl_X10_142 rfl o1 (x := (h v0 32)) rfl ?_
    obtain ⟨o23, k⟩ := k
    obtain ⟨o24, k⟩ := k
    obtain ⟨o25, k⟩ := k
    refine aw_iald dX10_next_27 o23 o24 o25 (x := (h (h v0 30) (h v0 32))) rfl ?_
    refine aw_bipush dX10_next_28 ⟨by decide, by decide⟩ (by decide) ?_
    refine aw_icmp_ne (tgt := 46) dX10_next_30 (by decide) (fun hc => ?_) (fun hc => ?_)
    · have k := k.1 hc
      refine aw_aload_n 0 dX10_next_46 rfl rfl ?_
      refine aw_aload_n 0 dX10_next_47 rfl rfl ?_
      refine aw_getI dX10_next_48 fl_X10_142 rfl o1 (x := (h v0 32)) rfl ?_
      refine aw_aload_n 0 dX10_next_51 rfl rfl ?_
      refine aw_getI dX10_next_52 fl_X10_128 rfl o1 (x := (h v0 31)) rfl ?_
      refine aw_icmp_ge (tgt := 67) dX10_next_55 (by decide) (fun hc => ?_) (fun hc => ?_)
      · have k := k.1 hc
        refine aw_aload_n 0 dX10_next_67 rfl rfl ?_
        refine aw_getI dX10_next_68 fl_X10_142 rfl o1 (x := (h v0 32)) rfl ?_
        refine aw_putI dX10_next_71 fl_X10_139 (fun q hq hf => by cases hq; cases hf) rfl rfl o1 ?_
        refine aw_hp (fun h1 e26 => ?_)
        have k := k h1 e26
        refine aw_aload_n 0 dX10_next_74 rfl rfl ?_
        have q27 := sh_w e26 (by decide) o1
        refine aw_getI dX10_next_75 fl_X10_142 rfl q27 (x := (h v0 32)) (rd_k e26 32 (by decide)) ?_
        refine aw_aload_n 0 dX10_next_78 rfl rfl ?_
        refine aw_getI dX10_next_79 fl_X10_128 rfl q27 (x := (h v0 31)) (rd_k e26 31 (by decide)) ?_
        refine aw_icmp_ge (tgt := 104) dX10_next_82 (by decide) (fun hc => ?_) (fun hc => ?_)
        · have k := k.1 hc
          refine aw_iconst dX10_next_104 ⟨by decide, by decide⟩ ?_
          refine aw_istore_n dX10_next_105 rfl (by decide) ?_
          refine aw_aload_n 1 dX10_next_106 rfl rfl ?_
          refine aw_getI dX10_next_107 fl_X10_142 rfl q27 (x := (h v0 32)) (rd_k e26 32 (by decide)) ?_
          refine aw_aload_n 1 dX10_next_110 rfl rfl ?_
          refine aw_getI dX10_next_111 fl_X10_128 rfl q27 (x := (h v0 31)) (rd_k e26 31 (by decide)) ?_
          refine aw_icmp_ge (tgt := 136) dX10_next_114 (by decide) (fun hc => ?_) (fun hc => ?_)
          · have k := k.1 hc
            refine aw_iconst dX10_next_136 ⟨by decide, by decide⟩ ?_
            refine aw_istore_n dX10_next_137 rfl (by decide) ?_
            exact aw_sub [2, 1, 0] rfl k
          · have k := k.2 hc
            refine aw_aload_n 1 dX10_next_117 rfl rfl ?_
            refine aw_getR dX10_next_118 fl_X10_83 rfl q27 (x := (h v0 30)) (rd_k e26 30 (by decide)) ?_
            refine aw_aload_n 1 dX10_next_121 rfl rfl ?_
            refine aw_getI dX10_next_122 fl_X10_142 rfl q27 (x := (h v0 32)) (rd_k e26 32 (by decide)) ?_
            have q28 := sh_w e26 (by decide) o23
            refine aw_iald dX10_next_125 q28 o24 (lt_l (ln_w e26 (h v0 30) (by decide)) o25) (x := (h (h v0 30) (h v0 32))) (rd_a e26 (h v0 30) (h v0 32) (ne_sh o1 o23 (by decide))) ?_
            refine aw_callS (M' := mm_X10_isDigit) [vI (h (h v0 30) (h v0 32))] [] lk_X10_149 dX10_next_126 rfl (Nat.le_of_ble_eq_true rfl) ⟨by decide, by decide, Nat.zero_le _, Nat.zero_le _⟩ ?_
            refine pu_X10_isDigit ?_
            refine aw_if_eq (tgt := 136) dX10_next_129 (by decide) (fun hc => ?_) (fun hc => ?_)
            · have k := k.1 (b2i_0.mp hc)
              refine aw_iconst dX10_next_136 ⟨by decide, by decide⟩ ?_
              refine aw_istore_n dX10_next_137 rfl (by decide) ?_
              exact aw_sub [2, 1, 0] rfl k
            · have k := k.2 (b2i_n.mp hc)
              refine aw_iconst dX10_next_132 ⟨by decide, by decide⟩ ?_
              refine aw_goto (tgt := 137) dX10_next_133 (by decide) ?_
              refine aw_istore_n dX10_next_137 rfl (by decide) ?_
              exact aw_sub [2, 1, 0] rfl k
        · have k := k.2 hc
          refine aw_aload_n 0 dX10_next_85 rfl rfl ?_
          refine aw_getR dX10_next_86 fl_X10_83 rfl q27 (x := (h v0 30)) (rd_k e26 30 (by decide)) ?_
          refine aw_aload_n 0 dX10_next_89 rfl rfl ?_
          refine aw_getI dX10_next_90 fl_X10_142 rfl q27 (x := (h v0 32)) (rd_k e26 32 (by decide)) ?_
          have q29 := sh_w e26 (by decide) o23
          refine aw_iald dX10_next_93 q29 o24 (lt_l (ln_w e26 (h v0 30) (by decide)) o25) (x := (h (h v0 30) (h v0 32))) (rd_a e26 (h v0 30) (h v0 32) (ne_sh o1 o23 (by decide))) ?_
          refine aw_callS (M' := mm_X10_isSmall) [vI (h (h v0 30) (h v0 32))] [] lk_X10_145 dX10_next_94 rfl (Nat.le_of_ble_eq_true rfl) ⟨by decide, by decide, Nat.zero_le _, Nat.zero_le _⟩ ?_
          refine pu_X10_isSmall ?_
          refine aw_if_eq (tgt := 104) dX10_next_97 (by decide) (fun hc => ?_) (fun hc => ?_)
          · have k := k.1 (b2i_0.mp hc)
            refine aw_iconst dX10_next_104 ⟨by decide, by decide⟩ ?_
            refine aw_istore_n dX10_next_105 rfl (by decide) ?_
            refine aw_aload_n 1 dX10_next_106 rfl rfl ?_
            refine aw_getI dX10_next_107 fl_X10_142 rfl q27 (x := (h v0 32)) (rd_k e26 32 (by decide)) ?_
            refine aw_aload_n 1 dX10_next_110 rfl rfl ?_
            refine aw_getI dX10_next_111 fl_X10_128 rfl q27 (x := (h v0 31)) (rd_k e26 31 (by decide)) ?_
            refine aw_icmp_ge (tgt := 136) dX10_next_114 (by decide) (fun hc => ?_) (fun hc => ?_)
            · have k := k.1 hc
              refine aw_iconst dX10_next_136 ⟨by decide, by decide⟩ ?_
              refine aw_istore_n dX10_next_137 rfl (by decide) ?_
              exact aw_sub [2, 1, 0] rfl k
            · have k := k.2 hc
              refine aw_aload_n 1 dX10_next_117 rfl rfl ?_
              refine aw_getR dX10_next_118 fl_X10_83 rfl q27 (x := (h v0 30)) (rd_k e26 30 (by decide)) ?_
              refine aw_aload_n 1 dX10_next_121 rfl rfl ?_
              refine aw_getI dX10_next_122 fl_X10_142 rfl q27 (x := (h v0 32)) (rd_k e26 32 (by decide)) ?_
              refine aw_iald dX10_next_125 q29 o24 (lt_l (ln_w e26 (h v0 30) (by decide)) o25) (x := (h (h v0 30) (h v0 32))) (rd_a e26 (h v0 30) (h v0 32) (ne_sh o1 o23 (by decide))) ?_
              refine aw_callS (M' := mm_X10_isDigit) [vI (h (h v0 30) (h v0 32))] [] lk_X10_149 dX10_next_126 rfl (Nat.le_of_ble_eq_true rfl) ⟨by decide, by decide, Nat.zero_le _, Nat.zero_le _⟩ ?_
              refine pu_X10_isDigit ?_
              refine aw_if_eq (tgt := 136) dX10_next_129 (by decide) (fun hc => ?_) (fun hc => ?_)
              · have k := k.1 (b2i_0.mp hc)
                refine aw_iconst dX10_next_136 ⟨by decide, by decide⟩ ?_
                refine aw_istore_n dX10_next_137 rfl (by decide) ?_
                exact aw_sub [2, 1, 0] rfl k
              · have k := k.2 (b2i_n.mp hc)
                refine aw_iconst dX10_next_132 ⟨by decide, by decide⟩ ?_
                refine aw_goto (tgt := 137) dX10_next_133 (by decide) ?_
                refine aw_istore_n dX10_next_137 rfl (by decide) ?_
                exact aw_sub [2, 1, 0] rfl k
          · have k := k.2 (b2i_n.mp hc)
            refine aw_iconst dX10_next_100 ⟨by decide, by decide⟩ ?_
            refine aw_goto (tgt := 105) dX10_next_101 (by decide) ?_
            refine aw_istore_n dX10_next_105 rfl (by decide) ?_
            refine aw_aload_n 1 dX10_next_106 rfl rfl ?_
            refine aw_getI dX10_next_107 fl_X10_142 rfl q27 (x := (h v0 32)) (rd_k e26 32 (by decide)) ?_
            refine aw_aload_n 1 dX10_next_110 rfl rfl ?_
            refine aw_getI dX10_next_111 fl_X10_128 rfl q27 (x := (h v0 31)) (rd_k e26 31 (by decide)) ?_
            refine aw_icmp_ge (tgt := 136) dX10_next_114 (by decide) (fun hc => ?_) (fun hc => ?_)
            · have k := k.1 hc
              refine aw_iconst dX10_next_136 ⟨by decide, by decide⟩ ?_
              refine aw_istore_n dX10_next_137 rfl (by decide) ?_
              exact aw_sub [2, 1, 0] rfl k
            · have k := k.2 hc
              refine aw_aload_n 1 dX10_next_117 rfl rfl ?_
              refine aw_getR dX10_next_118 fl_X10_83 rfl q27 (x := (h v0 30)) (rd_k e26 30 (by decide)) ?_
              refine aw_aload_n 1 dX10_next_121 rfl rfl ?_
              refine aw_getI dX10_next_122 fl_X10_142 rfl q27 (x := (h v0 32)) (rd_k e26 32 (by decide)) ?_
              refine aw_iald dX10_next_125 q29 o24 (lt_l (ln_w e26 (h v0 30) (by decide)) o25) (x := (h (h v0 30) (h v0 32))) (rd_a e26 (h v0 30) (h v0 32) (ne_sh o1 o23 (by decide))) ?_
              refine aw_callS (M' := mm_X10_isDigit) [vI (h (h v0 30) (h v0 32))] [] lk_X10_149 dX10_next_126 rfl (Nat.le_of_ble_eq_true rfl) ⟨by decide, by decide, Nat.zero_le _, Nat.zero_le _⟩ ?_
              refine pu_X10_isDigit ?_
              refine aw_if_eq (tgt := 136) dX10_next_129 (by decide) (fun hc => ?_) (fun hc => ?_)
              · have k := k.1 (b2i_0.mp hc)
                refine aw_iconst dX10_next_136 ⟨by decide, by decide⟩ ?_
                refine aw_istore_n dX10_next_137 rfl (by decide) ?_
                exact aw_sub [2, 1, 0] rfl k
              · have k := k.2 (b2i_n.mp hc)
                refine aw_iconst dX10_next_132 ⟨by decide, by decide⟩ ?_
                refine aw_goto (tgt := 137) dX10_next_133 (by decide) ?_
                refine aw_istore_n dX10_next_137 rfl (by decide) ?_
                exact aw_sub [2, 1, 0] rfl k
      · have k := k.2 hc
        refine aw_aload_n 0 dX10_next_58 rfl rfl ?_
        refine aw_getI dX10_next_59 fl_X10_142 rfl o1 (x := (h v0 32)) rfl ?_
        refine aw_iconst dX10_next_62 ⟨by decide, by decide⟩ ?_
        obtain ⟨o30, k⟩ := k
        refine aw_iadd dX10_next_63 o30 ?_
        refine aw_goto (tgt := 71) dX10_next_64 (by decide) ?_
        refine aw_putI dX10_next_71 fl_X10_139 (fun q hq hf => by cases hq; cases hf) rfl rfl o1 ?_
        refine aw_hp (fun h1 e31 => ?_)
        have k := k h1 e31
        refine aw_aload_n 0 dX10_next_74 rfl rfl ?_
        have q32 := sh_w e31 (by decide) o1
        refine aw_getI dX10_next_75 fl_X10_142 rfl q32 (x := (h v0 32)) (rd_k e31 32 (by decide)) ?_
        refine aw_aload_n 0 dX10_next_78 rfl rfl ?_
        refine aw_getI dX10_next_79 fl_X10_128 rfl q32 (x := (h v0 31)) (rd_k e31 31 (by decide)) ?_
        refine aw_icmp_ge (tgt := 104) dX10_next_82 (by decide) (fun hc => ?_) (fun hc => ?_)
        · have k := k.1 hc
          refine aw_iconst dX10_next_104 ⟨by decide, by decide⟩ ?_
          refine aw_istore_n dX10_next_105 rfl (by decide) ?_
          refine aw_aload_n 1 dX10_next_106 rfl rfl ?_
          refine aw_getI dX10_next_107 fl_X10_142 rfl q32 (x := (h v0 32)) (rd_k e31 32 (by decide)) ?_
          refine aw_aload_n 1 dX10_next_110 rfl rfl ?_
          refine aw_getI dX10_next_111 fl_X10_128 rfl q32 (x := (h v0 31)) (rd_k e31 31 (by decide)) ?_
          refine aw_icmp_ge (tgt := 136) dX10_next_114 (by decide) (fun hc => ?_) (fun hc => ?_)
          · have k := k.1 hc
            refine aw_iconst dX10_next_136 ⟨by decide, by decide⟩ ?_
            refine aw_istore_n dX10_next_137 rfl (by decide) ?_
            exact aw_sub [2, 1, 0] rfl k
          · have k := k.2 hc
            refine aw_aload_n 1 dX10_next_117 rfl rfl ?_
            refine aw_getR dX10_next_118 fl_X10_83 rfl q32 (x := (h v0 30)) (rd_k e31 30 (by decide)) ?_
            refine aw_aload_n 1 dX10_next_121 rfl rfl ?_
            refine aw_getI dX10_next_122 fl_X10_142 rfl q32 (x := (h v0 32)) (rd_k e31 32 (by decide)) ?_
            have q33 := sh_w e31 (by decide) o23
            refine aw_iald dX10_next_125 q33 o24 (lt_l (ln_w e31 (h v0 30) (by decide)) o25) (x := (h (h v0 30) (h v0 32))) (rd_a e31 (h v0 30) (h v0 32) (ne_sh o1 o23 (by decide))) ?_
            refine aw_callS (M' := mm_X10_isDigit) [vI (h (h v0 30) (h v0 32))] [] lk_X10_149 dX10_next_126 rfl (Nat.le_of_ble_eq_true rfl) ⟨by decide, by decide, Nat.zero_le _, Nat.zero_le _⟩ ?_
            refine pu_X10_isDigit ?_
            refine aw_if_eq (tgt := 136) dX10_next_129 (by decide) (fun hc => ?_) (fun hc => ?_)
            · have k := k.1 (b2i_0.mp hc)
              refine aw_iconst dX10_next_136 ⟨by decide, by decide⟩ ?_
              refine aw_istore_n dX10_next_137 rfl (by decide) ?_
              exact aw_sub [2, 1, 0] rfl k
            · have k := k.2 (b2i_n.mp hc)
              refine aw_iconst dX10_next_132 ⟨by decide, by decide⟩ ?_
              refine aw_goto (tgt := 137) dX10_next_133 (by decide) ?_
              refine aw_istore_n dX10_next_137 rfl (by decide) ?_
              exact aw_sub [2, 1, 0] rfl k
        · have k := k.2 hc
          refine aw_aload_n 0 dX10_next_85 rfl rfl ?_
          refine aw_getR dX10_next_86 fl_X10_83 rfl q32 (x := (h v0 30)) (rd_k e31 30 (by decide)) ?_
          refine aw_aload_n 0 dX10_next_89 rfl rfl ?_
          refine aw_getI dX10_next_90 fl_X10_142 rfl q32 (x := (h v0 32)) (rd_k e31 32 (by decide)) ?_
          have q34 := sh_w e31 (by decide) o23
          refine aw_iald dX10_next_93 q34 o24 (lt_l (ln_w e31 (h v0 30) (by decide)) o25) (x := (h (h v0 30) (h v0 32))) (rd_a e31 (h v0 30) (h v0 32) (ne_sh o1 o23 (by decide))) ?_
          refine aw_callS (M' := mm_X10_isSmall) [vI (h (h v0 30) (h v0 32))] [] lk_X10_145 dX10_next_94 rfl (Nat.le_of_ble_eq_true rfl) ⟨by decide, by decide, Nat.zero_le _, Nat.zero_le _⟩ ?_
          refine pu_X10_isSmall ?_
          refine aw_if_eq (tgt := 104) dX10_next_97 (by decide) (fun hc => ?_) (fun hc => ?_)
          · have k := k.1 (b2i_0.mp hc)
            refine aw_iconst dX10_next_104 ⟨by decide, by decide⟩ ?_
            refine aw_istore_n dX10_next_105 rfl (by decide) ?_
            refine aw_aload_n 1 dX10_next_106 rfl rfl ?_
            refine aw_getI dX10_next_107 fl_X10_142 rfl q32 (x := (h v0 32)) (rd_k e31 32 (by decide)) ?_
            refine aw_aload_n 1 dX10_next_110 rfl rfl ?_
            refine aw_getI dX10_next_111 fl_X10_128 rfl q32 (x := (h v0 31)) (rd_k e31 31 (by decide)) ?_
            refine aw_icmp_ge (tgt := 136) dX10_next_114 (by decide) (fun hc => ?_) (fun hc => ?_)
            · have k := k.1 hc
              refine aw_iconst dX10_next_136 ⟨by decide, by decide⟩ ?_
              refine aw_istore_n dX10_next_137 rfl (by decide) ?_
              exact aw_sub [2, 1, 0] rfl k
            · have k := k.2 hc
              refine aw_aload_n 1 dX10_next_117 rfl rfl ?_
              refine aw_getR dX10_next_118 fl_X10_83 rfl q32 (x := (h v0 30)) (rd_k e31 30 (by decide)) ?_
              refine aw_aload_n 1 dX10_next_121 rfl rfl ?_
              refine aw_getI dX10_next_122 fl_X10_142 rfl q32 (x := (h v0 32)) (rd_k e31 32 (by decide)) ?_
              refine aw_iald dX10_next_125 q34 o24 (lt_l (ln_w e31 (h v0 30) (by decide)) o25) (x := (h (h v0 30) (h v0 32))) (rd_a e31 (h v0 30) (h v0 32) (ne_sh o1 o23 (by decide))) ?_
              refine aw_callS (M' := mm_X10_isDigit) [vI (h (h v0 30) (h v0 32))] [] lk_X10_149 dX10_next_126 rfl (Nat.le_of_ble_eq_true rfl) ⟨by decide, by decide, Nat.zero_le _, Nat.zero_le _⟩ ?_
              refine pu_X10_isDigit ?_
              refine aw_if_eq (tgt := 136) dX10_next_129 (by decide) (fun hc => ?_) (fun hc => ?_)
              · have k := k.1 (b2i_0.mp hc)
                refine aw_iconst dX10_next_136 ⟨by decide, by decide⟩ ?_
                refine aw_istore_n dX10_next_137 rfl (by decide) ?_
                exact aw_sub [2, 1, 0] rfl k
              · have k := k.2 (b2i_n.mp hc)
                refine aw_iconst dX10_next_132 ⟨by decide, by decide⟩ ?_
                refine aw_goto (tgt := 137) dX10_next_133 (by decide) ?_
                refine aw_istore_n dX10_next_137 rfl (by decide) ?_
                exact aw_sub [2, 1, 0] rfl k
          · have k := k.2 (b2i_n.mp hc)
            refine aw_iconst dX10_next_100 ⟨by decide, by decide⟩ ?_
            refine aw_goto (tgt := 105) dX10_next_101 (by decide) ?_
            refine aw_istore_n dX10_next_105 rfl (by decide) ?_
            refine aw_aload_n 1 dX10_next_106 rfl rfl ?_
            refine aw_getI dX10_next_107 fl_X10_142 rfl q32 (x := (h v0 32)) (rd_k e31 32 (by decide)) ?_
            refine aw_aload_n 1 dX10_next_110 rfl rfl ?_
            refine aw_getI dX10_next_111 fl_X10_128 rfl q32 (x := (h v0 31)) (rd_k e31 31 (by decide)) ?_
            refine aw_icmp_ge (tgt := 136) dX10_next_114 (by decide) (fun hc => ?_) (fun hc => ?_)
            · have k := k.1 hc
              refine aw_iconst dX10_next_136 ⟨by decide, by decide⟩ ?_
              refine aw_istore_n dX10_next_137 rfl (by decide) ?_
              exact aw_sub [2, 1, 0] rfl k
            · have k := k.2 hc
              refine aw_aload_n 1 dX10_next_117 rfl rfl ?_
              refine aw_getR dX10_next_118 fl_X10_83 rfl q32 (x := (h v0 30)) (rd_k e31 30 (by decide)) ?_
              refine aw_aload_n 1 dX10_next_121 rfl rfl ?_
              refine aw_getI dX10_next_122 fl_X10_142 rfl q32 (x := (h v0 32)) (rd_k e31 32 (by decide)) ?_
              refine aw_iald dX10_next_125 q34 o24 (lt_l (ln_w e31 (h v0 30) (by decide)) o25) (x := (h (h v0 30) (h v0 32))) (rd_a e31 (h v0 30) (h v0 32) (ne_sh o1 o23 (by decide))) ?_
              refine aw_callS (M' := mm_X10_isDigit) [vI (h (h v0 30) (h v0 32))] [] lk_X10_149 dX10_next_126 rfl (Nat.le_of_ble_eq_true rfl) ⟨by decide, by decide, Nat.zero_le _, Nat.zero_le _⟩ ?_
              refine pu_X10_isDigit ?_
              refine aw_if_eq (tgt := 136) dX10_next_129 (by decide) (fun hc => ?_) (fun hc => ?_)
              · have k := k.1 (b2i_0.mp hc)
                refine aw_iconst dX10_next_136 ⟨by decide, by decide⟩ ?_
                refine aw_istore_n dX10_next_137 rfl (by decide) ?_
                exact aw_sub [2, 1, 0] rfl k
              · have k := k.2 (b2i_n.mp hc)
                refine aw_iconst dX10_next_132 ⟨by decide, by decide⟩ ?_
                refine aw_goto (tgt := 137) dX10_next_133 (by decide) ?_
                refine aw_istore_n dX10_next_137 rfl (by decide) ?_
                exact aw_sub [2, 1, 0] rfl k
    · have k := k.2 hc
      refine aw_aload_n 0 dX10_next_33 rfl rfl ?_
      refine aw_dup dX10_next_34 rfl ?_
      refine aw_getI dX10_next_35 fl_X10_142 rfl o1 (x := (h v0 32)) rfl ?_
      refine aw_iconst dX10_next_38 ⟨by decide, by decide⟩ ?_
      obtain ⟨o35, k⟩ := k
      refine aw_iadd dX10_next_39 o35 ?_
      refine aw_putI dX10_next_40 fl_X10_142 (fun q hq hf => by cases hq; cases hf) rfl rfl o1 ?_
      refine aw_hp (fun h1 e36 => ?_)
      have k := k h1 e36
      refine aw_goto (tgt := 8) dX10_next_43 (by decide) ?_
      exact k
set_option maxRecDepth 20000 in
theorem sg_X10_next_138 {G : GG} {b : Nat × Nat} {Q : Option VV → Hp → Prop} {v0 v1 v2 : Int} {h : Hp} (k : (h v0 (-1) = 11) ∧ (((h v0 31) ≤ (h v0 33)) → Q none h) ∧ ((¬ ((h v0 31) ≤ (h v0 33))) → ((v1 = 0) → ((v2 = 0) → Q none h) ∧ ((¬ (v2 = 0)) → (h (h v0 30) (-1) = 20) ∧ (0 ≤ (h v0 33)) ∧ ((h v0 33) < h (h v0 30) (-2)) ∧ ((¬ (48 ≤ (h (h v0 30) (h v0 33)) ∧ (h (h v0 30) (h v0 33)) ≤ 57)) → Q none h) ∧ ((48 ≤ (h (h v0 30) (h v0 33)) ∧ (h (h v0 30) (h v0 33)) ≤ 57) → (inI ((h v0 33) + 1)) ∧ ∀ h1, h1 = wr h v0 33 ((h v0 33) + 1) → AW G mm_X10_next b 138 [(0, vR v0), (1, vI v1), (2, vI v2)] [] h1 Q))) ∧ ((¬ (v1 = 0)) → (h (h v0 30) (-1) = 20) ∧ (0 ≤ (h v0 33)) ∧ ((h v0 33) < h (h v0 30) (-2)) ∧ ((97 ≤ (h (h v0 30) (h v0 33)) ∧ (h (h v0 30) (h v0 33)) ≤ 122) → (inI ((h v0 33) + 1)) ∧ ∀ h1, h1 = wr h v0 33 ((h v0 33) + 1) → AW G mm_X10_next b 138 [(0, vR v0), (1, vI v1), (2, vI v2)] [] h1 Q) ∧ ((¬ (97 ≤ (h (h v0 30) (h v0 33)) ∧ (h (h v0 30) (h v0 33)) ≤ 122)) → ((v2 = 0) → Q none h) ∧ ((¬ (v2 = 0)) → ((¬ (48 ≤ (h (h v0 30) (h v0 33)) ∧ (h (h v0 30) (h v0 33)) ≤ 57)) → Q none h) ∧ ((48 ≤ (h (h v0 30) (h v0 33)) ∧ (h (h v0 30) (h v0 33)) ≤ 57) → (inI ((h v0 33) + 1)) ∧ ∀ h1, h1 = wr h v0 33 ((h v0 33) + 1) → AW G mm_X10_next b 138 [(0, vR v0), (1, vI v1), (2, vI v2)] [] h1 Q)))))) : AW G mm_X10_next b 138 [(0, vR v0), (1, vI v1), (2, vI v2)] [] h Q := by
  refine aw_aload_n 0 dX10_next_138 rfl rfl ?_
  obtain ⟨o1, k⟩ := k
  refine aw_getI dX10_next_139 fl_X10_139 rfl o1 (x := (h v0 33)) rfl ?_
  refine aw_aload_n 0 dX10_next_142 rfl rfl ?_
  refine aw_getI dX10_next_143 fl_X10_128 rfl o1 (x := (h v0 31)) rfl ?_
  refine aw_icmp_ge (tgt := 200) dX10_next_146 (by decide) (fun hc => ?_) (fun hc => ?_)
  · have k := k.1 hc
    exact aw_vret dX10_next_200 rfl k
  · have k := k.2 hc
    refine aw_iload_n 1 dX10_next_149 rfl rfl ?_
    refine aw_if_eq (tgt := 168) dX10_next_150 (by decide) (fun hc => ?_) (fun hc => ?_)
    · have k := k.1 hc
      refine aw_iload_n 2 dX10_next_168 rfl rfl ?_
      refine aw_if_eq (tgt := 200) dX10_next_169 (by decide) (fun hc => ?_) (fun hc => ?_)
      · have k := k.1 hc
        exact aw_vret dX10_next_200 rfl k
      · have k := k.2 hc
        refine aw_aload_n 0 dX10_next_172 rfl rfl ?_
        refine aw_getR dX10_next_173 fl_X10_83 rfl o1 (x := (h v0 30)) rfl ?_
        refine aw_aload_n 0 dX10_next_176 rfl rfl ?_
        refine aw_getI dX10_next_177 fl_X10_139 rfl o1 (x := (h v0 33)) rfl ?_
        obtain ⟨o2, k⟩ := k
        obtain ⟨o3, k⟩ := k
        obtain ⟨o4, k⟩ := k
        refine aw_iald dX10_next_180 o2 o3 o4 (x := (h (h v0 30) (h v0 33))) rfl ?_
        refine aw_callS (M' := mm_X10_isDigit) [vI (h (h v0 30) (h v0 33))] [] lk_X10_149 dX10_next_181 rfl (Nat.le_of_ble_eq_true rfl) ⟨by decide, by decide, Nat.zero_le _, Nat.zero_le _⟩ ?_
        refine pu_X10_isDigit ?_
        refine aw_if_eq (tgt := 200) dX10_next_184 (by decide) (fun hc => ?_) (fun hc => ?_)
        · have k := k.1 (b2i_0.mp hc)
          exact aw_vret dX10_next_200 rfl k
        · have k := k.2 (b2i_n.mp hc)
          refine aw_aload_n 0 dX10_next_187 rfl rfl ?_
          refine aw_dup dX10_next_188 rfl ?_
          refine aw_getI dX10_next_189 fl_X10_139 rfl o1 (x := (h v0 33)) rfl ?_
          refine aw_iconst dX10_next_192 ⟨by decide, by decide⟩ ?_
          obtain ⟨o5, k⟩ := k
          refine aw_iadd dX10_next_193 o5 ?_
          refine aw_putI dX10_next_194 fl_X10_139 (fun q hq hf => by cases hq; cases hf) rfl rfl o1 ?_
          refine aw_hp (fun h1 e6 => ?_)
          have k := k h1 e6
          refine aw_goto (tgt := 138) dX10_next_197 (by decide) ?_
          exact k
    · have k := k.2 hc
      refine aw_aload_n 0 dX10_next_153 rfl rfl ?_
      refine aw_getR dX10_next_154 fl_X10_83 rfl o1 (x := (h v0 30)) rfl ?_
      refine aw_aload_n 0 dX10_next_157 rfl rfl ?_
      refine aw_getI dX10_next_158 fl_X10_139 rfl o1 (x := (h v0 33)) rfl ?_
      obtain ⟨o7, k⟩ := k
      obtain ⟨o8, k⟩ := k
      obtain ⟨o9, k⟩ := k
      refine aw_iald dX10_next_161 o7 o8 o9 (x := (h (h v0 30) (h v0 33))) rfl ?_
      refine aw_callS (M' := mm_X10_isSmall) [vI (h (h v0 30) (h v0 33))] [] lk_X10_145 dX10_next_162 rfl (Nat.le_of_ble_eq_true rfl) ⟨by decide, by decide, Nat.zero_le _, Nat.zero_le _⟩ ?_
      refine pu_X10_isSmall ?_
      refine aw_if_ne (tgt := 187) dX10_next_165 (by decide) (fun hc => ?_) (fun hc => ?_)
      · have k := k.1 (b2i_n.mp hc)
        refine aw_aload_n 0 dX10_next_187 rfl rfl ?_
        refine aw_dup dX10_next_188 rfl ?_
        refine aw_getI dX10_next_189 fl_X10_139 rfl o1 (x := (h v0 33)) rfl ?_
        refine aw_iconst dX10_next_192 ⟨by decide, by decide⟩ ?_
        obtain ⟨o10, k⟩ := k
        refine aw_iadd dX10_next_193 o10 ?_
        refine aw_putI dX10_next_194 fl_X10_139 (fun q hq hf => by cases hq; cases hf) rfl rfl o1 ?_
        refine aw_hp (fun h1 e11 => ?_)
        have k := k h1 e11
        refine aw_goto (tgt := 138) dX10_next_197 (by decide) ?_
        exact k
      · have k := k.2 (b2i_0.mp hc)
        refine aw_iload_n 2 dX10_next_168 rfl rfl ?_
        refine aw_if_eq (tgt := 200) dX10_next_169 (by decide) (fun hc => ?_) (fun hc => ?_)
        · have k := k.1 hc
          exact aw_vret dX10_next_200 rfl k
        · have k := k.2 hc
          refine aw_aload_n 0 dX10_next_172 rfl rfl ?_
          refine aw_getR dX10_next_173 fl_X10_83 rfl o1 (x := (h v0 30)) rfl ?_
          refine aw_aload_n 0 dX10_next_176 rfl rfl ?_
          refine aw_getI dX10_next_177 fl_X10_139 rfl o1 (x := (h v0 33)) rfl ?_
          refine aw_iald dX10_next_180 o7 o8 o9 (x := (h (h v0 30) (h v0 33))) rfl ?_
          refine aw_callS (M' := mm_X10_isDigit) [vI (h (h v0 30) (h v0 33))] [] lk_X10_149 dX10_next_181 rfl (Nat.le_of_ble_eq_true rfl) ⟨by decide, by decide, Nat.zero_le _, Nat.zero_le _⟩ ?_
          refine pu_X10_isDigit ?_
          refine aw_if_eq (tgt := 200) dX10_next_184 (by decide) (fun hc => ?_) (fun hc => ?_)
          · have k := k.1 (b2i_0.mp hc)
            exact aw_vret dX10_next_200 rfl k
          · have k := k.2 (b2i_n.mp hc)
            refine aw_aload_n 0 dX10_next_187 rfl rfl ?_
            refine aw_dup dX10_next_188 rfl ?_
            refine aw_getI dX10_next_189 fl_X10_139 rfl o1 (x := (h v0 33)) rfl ?_
            refine aw_iconst dX10_next_192 ⟨by decide, by decide⟩ ?_
            obtain ⟨o12, k⟩ := k
            refine aw_iadd dX10_next_193 o12 ?_
            refine aw_putI dX10_next_194 fl_X10_139 (fun q hq hf => by cases hq; cases hf) rfl rfl o1 ?_
            refine aw_hp (fun h1 e13 => ?_)
            have k := k h1 e13
            refine aw_goto (tgt := 138) dX10_next_197 (by decide) ?_
            exact k
set_option maxRecDepth 20000 in
theorem sg_X10_oldest_0 {G : GG} {b : Nat × Nat} {Q : Option VV → Hp → Prop} {v0 v1 : Int} {h : Hp} (k : (h v0 (-1) = 11) ∧ (inI (28 * v1)) ∧ (inI ((28 * v1) + 0)) ∧ (h (h v0 7) (-1) = 20) ∧ (0 ≤ ((28 * v1) + 0)) ∧ (((28 * v1) + 0) < h (h v0 7) (-2)) ∧ Q (some (vI (h (h v0 7) ((28 * v1) + 0)))) h) : AW G mm_X10_oldest b 0 [(0, vR v0), (1, vI v1)] [] h Q := by
  refine aw_aload_n 0 dX10_oldest_0 rfl rfl ?_
  obtain ⟨o1, k⟩ := k
  refine aw_getR dX10_oldest_1 fl_X10_31 rfl o1 (x := (h v0 7)) rfl ?_
  refine aw_bipush dX10_oldest_4 ⟨by decide, by decide⟩ (by decide) ?_
  refine aw_iload_n 1 dX10_oldest_6 rfl rfl ?_
  obtain ⟨o2, k⟩ := k
  refine aw_imul dX10_oldest_7 o2 ?_
  refine aw_iconst dX10_oldest_8 ⟨by decide, by decide⟩ ?_
  obtain ⟨o3, k⟩ := k
  refine aw_iadd dX10_oldest_9 o3 ?_
  obtain ⟨o4, k⟩ := k
  obtain ⟨o5, k⟩ := k
  obtain ⟨o6, k⟩ := k
  refine aw_iald dX10_oldest_10 o4 o5 o6 (x := (h (h v0 7) ((28 * v1) + 0))) rfl ?_
  exact aw_iret dX10_oldest_11 rfl k
theorem rn_X10_oldest {G : GG} {Q : Option VV → Hp → Prop} {v0 v1 : Int} {h : Hp} (k : (h v0 (-1) = 11) ∧ (inI (28 * v1)) ∧ (inI ((28 * v1) + 0)) ∧ (h (h v0 7) (-1) = 20) ∧ (0 ≤ ((28 * v1) + 0)) ∧ (((28 * v1) + 0) < h (h v0 7) (-2)) ∧ Q (some (vI (h (h v0 7) ((28 * v1) + 0)))) h) : Runs G mm_X10_oldest [vR v0, vI v1] h Q := Runs.of (by decide +kernel) (Nat.le_of_ble_eq_true rfl) (sg_X10_oldest_0 (b := (0, 0)) k)
set_option maxRecDepth 20000 in
theorem sg_X10_open_0 {G : GG} {b : Nat × Nat} {Q : Option VV → Hp → Prop} {v0 v1 v2 v3 : Int} {h : Hp} (k : ((¬ (0 ≤ v1 ∧ v1 ≤ 3)) → Q (some (vI (-1001))) h) ∧ ((0 ≤ v1 ∧ v1 ≤ 3) → (h v0 (-1) = 11) ∧ (h (h v0 6) (-1) = 20) ∧ (0 ≤ v1) ∧ (v1 < h (h v0 6) (-2)) ∧ (inI ((h (h v0 6) v1) - 1)) ∧ ((0 ≤ v2 ∧ v2 ≤ ((h (h v0 6) v1) - 1)) → ((¬ (0 ≤ v3 ∧ v3 ≤ 4)) → Q (some (vI (-1002))) h) ∧ ((0 ≤ v3 ∧ v3 ≤ 4) → (inI (4 * v1)) ∧ (inI ((4 * v1) + v2)) ∧ (inI (7 * ((4 * v1) + v2))) ∧ (inI ((7 * ((4 * v1) + v2)) + v3)) ∧ (h (h v0 7) (-1) = 20) ∧ (0 ≤ ((7 * ((4 * v1) + v2)) + v3)) ∧ (((7 * ((4 * v1) + v2)) + v3) < h (h v0 7) (-2)) ∧ Q (some (vI (h (h v0 7) ((7 * ((4 * v1) + v2)) + v3)))) h)) ∧ ((¬ (0 ≤ v2 ∧ v2 ≤ ((h (h v0 6) v1) - 1))) → Q (some (vI (-1001))) h))) : AW G mm_X10_open b 0 [(0, vR v0), (1, vI v1), (2, vI v2), (3, vI v3)] [] h Q := by
  refine aw_iload_n 1 dX10_open_0 rfl rfl ?_
  refine aw_callS (M' := mm_X10_isEnd) [vI v1] [] lk_X10_220 dX10_open_1 rfl (Nat.le_of_ble_eq_true rfl) ⟨by decide, by decide, Nat.zero_le _, Nat.zero_le _⟩ ?_
  refine pu_X10_isEnd ?_
  refine aw_if_eq (tgt := 25) dX10_open_4 (by decide) (fun hc => ?_) (fun hc => ?_)
  · have k := k.1 (b2i_0.mp hc)
    refine aw_sipush dX10_open_25 ⟨by decide, by decide⟩ (by decide) ?_
    exact aw_iret dX10_open_28 rfl k
  · have k := k.2 (b2i_n.mp hc)
    refine aw_iload_n 2 dX10_open_7 rfl rfl ?_
    refine aw_i2l dX10_open_8 ?_
    refine aw_lconst (x := 0) dX10_open_9 ⟨by decide, by decide⟩ (by decide) ?_
    refine aw_aload_n 0 dX10_open_10 rfl rfl ?_
    obtain ⟨o1, k⟩ := k
    refine aw_getR dX10_open_11 fl_X10_28 rfl o1 (x := (h v0 6)) rfl ?_
    refine aw_iload_n 1 dX10_open_14 rfl rfl ?_
    obtain ⟨o2, k⟩ := k
    obtain ⟨o3, k⟩ := k
    obtain ⟨o4, k⟩ := k
    refine aw_iald dX10_open_15 o2 o3 o4 (x := (h (h v0 6) v1)) rfl ?_
    refine aw_iconst dX10_open_16 ⟨by decide, by decide⟩ ?_
    obtain ⟨o5, k⟩ := k
    refine aw_isub dX10_open_17 o5 ?_
    refine aw_i2l dX10_open_18 ?_
    refine aw_callS (M' := mm_X10_in) [vL v2, vL 0, vL ((h (h v0 6) v1) - 1)] [] lk_X10_95 dX10_open_19 rfl (Nat.le_of_ble_eq_true rfl) ⟨by decide, by decide, Nat.zero_le _, Nat.zero_le _⟩ ?_
    refine pu_X10_in ?_
    refine aw_if_ne (tgt := 29) dX10_open_22 (by decide) (fun hc => ?_) (fun hc => ?_)
    · have k := k.1 (b2i_n.mp hc)
      refine aw_iload_n 3 dX10_open_29 rfl rfl ?_
      refine aw_i2l dX10_open_30 ?_
      refine aw_lconst (x := 0) dX10_open_31 ⟨by decide, by decide⟩ (by decide) ?_
      refine aw_ldc2 (x := 4) dX10_open_32 ⟨by decide, by decide⟩ cl_X10_288 ?_
      refine aw_callS (M' := mm_X10_in) [vL v3, vL 0, vL 4] [] lk_X10_95 dX10_open_35 rfl (Nat.le_of_ble_eq_true rfl) ⟨by decide, by decide, Nat.zero_le _, Nat.zero_le _⟩ ?_
      refine pu_X10_in ?_
      refine aw_if_eq (tgt := 59) dX10_open_38 (by decide) (fun hc => ?_) (fun hc => ?_)
      · have k := k.1 (b2i_0.mp hc)
        refine aw_sipush dX10_open_59 ⟨by decide, by decide⟩ (by decide) ?_
        exact aw_iret dX10_open_62 rfl k
      · have k := k.2 (b2i_n.mp hc)
        refine aw_aload_n 0 dX10_open_41 rfl rfl ?_
        refine aw_getR dX10_open_42 fl_X10_31 rfl o1 (x := (h v0 7)) rfl ?_
        refine aw_bipush dX10_open_45 ⟨by decide, by decide⟩ (by decide) ?_
        refine aw_iconst dX10_open_47 ⟨by decide, by decide⟩ ?_
        refine aw_iload_n 1 dX10_open_48 rfl rfl ?_
        obtain ⟨o6, k⟩ := k
        refine aw_imul dX10_open_49 o6 ?_
        refine aw_iload_n 2 dX10_open_50 rfl rfl ?_
        obtain ⟨o7, k⟩ := k
        refine aw_iadd dX10_open_51 o7 ?_
        obtain ⟨o8, k⟩ := k
        refine aw_imul dX10_open_52 o8 ?_
        refine aw_iload_n 3 dX10_open_53 rfl rfl ?_
        obtain ⟨o9, k⟩ := k
        refine aw_iadd dX10_open_54 o9 ?_
        obtain ⟨o10, k⟩ := k
        obtain ⟨o11, k⟩ := k
        obtain ⟨o12, k⟩ := k
        refine aw_iald dX10_open_55 o10 o11 o12 (x := (h (h v0 7) ((7 * ((4 * v1) + v2)) + v3))) rfl ?_
        refine aw_goto (tgt := 62) dX10_open_56 (by decide) ?_
        exact aw_iret dX10_open_62 rfl k
    · have k := k.2 (b2i_0.mp hc)
      refine aw_sipush dX10_open_25 ⟨by decide, by decide⟩ (by decide) ?_
      exact aw_iret dX10_open_28 rfl k
theorem rn_X10_open {G : GG} {Q : Option VV → Hp → Prop} {v0 v1 v2 v3 : Int} {h : Hp} (k : ((¬ (0 ≤ v1 ∧ v1 ≤ 3)) → Q (some (vI (-1001))) h) ∧ ((0 ≤ v1 ∧ v1 ≤ 3) → (h v0 (-1) = 11) ∧ (h (h v0 6) (-1) = 20) ∧ (0 ≤ v1) ∧ (v1 < h (h v0 6) (-2)) ∧ (inI ((h (h v0 6) v1) - 1)) ∧ ((0 ≤ v2 ∧ v2 ≤ ((h (h v0 6) v1) - 1)) → ((¬ (0 ≤ v3 ∧ v3 ≤ 4)) → Q (some (vI (-1002))) h) ∧ ((0 ≤ v3 ∧ v3 ≤ 4) → (inI (4 * v1)) ∧ (inI ((4 * v1) + v2)) ∧ (inI (7 * ((4 * v1) + v2))) ∧ (inI ((7 * ((4 * v1) + v2)) + v3)) ∧ (h (h v0 7) (-1) = 20) ∧ (0 ≤ ((7 * ((4 * v1) + v2)) + v3)) ∧ (((7 * ((4 * v1) + v2)) + v3) < h (h v0 7) (-2)) ∧ Q (some (vI (h (h v0 7) ((7 * ((4 * v1) + v2)) + v3)))) h)) ∧ ((¬ (0 ≤ v2 ∧ v2 ≤ ((h (h v0 6) v1) - 1))) → Q (some (vI (-1001))) h))) : Runs G mm_X10_open [vR v0, vI v1, vI v2, vI v3] h Q := Runs.of (by decide +kernel) (Nat.le_of_ble_eq_true rfl) (sg_X10_open_0 (b := (0, 0)) k)
set_option maxRecDepth 20000 in
theorem sg_X10_packet_0 {G : GG} {b : Nat × Nat} {Q : Option VV → Hp → Prop} {v0 v1 : Int} {h : Hp} (k : ((0 ≤ v1 ∧ v1 ≤ 4) → (h v0 (-1) = 11) ∧ ((¬ (h v0 21) = 0) → Runs G mm_X10_firstPacket [vR v0] h (fun r h' => AW G mm_X10_packet b 33 [(0, vR v0), (1, vI v1)] (r.toList ++ [vI 11]) h' Q)) ∧ (((h v0 21) = 0) → Q (some (vI (-1003))) h)) ∧ ((¬ (0 ≤ v1 ∧ v1 ≤ 4)) → Q (some (vI (-1002))) h)) : AW G mm_X10_packet b 0 [(0, vR v0), (1, vI v1)] [] h Q := by
  refine aw_iload_n 1 dX10_packet_0 rfl rfl ?_
  refine aw_i2l dX10_packet_1 ?_
  refine aw_lconst (x := 0) dX10_packet_2 ⟨by decide, by decide⟩ (by decide) ?_
  refine aw_ldc2 (x := 4) dX10_packet_3 ⟨by decide, by decide⟩ cl_X10_288 ?_
  refine aw_callS (M' := mm_X10_in) [vL v1, vL 0, vL 4] [] lk_X10_95 dX10_packet_6 rfl (Nat.le_of_ble_eq_true rfl) ⟨by decide, by decide, Nat.zero_le _, Nat.zero_le _⟩ ?_
  refine pu_X10_in ?_
  refine aw_if_ne (tgt := 16) dX10_packet_9 (by decide) (fun hc => ?_) (fun hc => ?_)
  · have k := k.1 (b2i_n.mp hc)
    refine aw_aload_n 0 dX10_packet_16 rfl rfl ?_
    obtain ⟨o1, k⟩ := k
    refine aw_getI dX10_packet_17 fl_X10_113 rfl o1 (x := (h v0 21)) rfl ?_
    refine aw_if_ne (tgt := 27) dX10_packet_20 (by decide) (fun hc => ?_) (fun hc => ?_)
    · have k := k.1 hc
      refine aw_bipush dX10_packet_27 ⟨by decide, by decide⟩ (by decide) ?_
      refine aw_aload_n 0 dX10_packet_29 rfl rfl ?_
      refine aw_callV (M' := mm_X10_firstPacket) 10 [] [vI 11] lk_X10_231 ⟨_, rfl, rfl⟩ dX10_packet_30 rfl (Nat.le_of_ble_eq_true rfl) ⟨by decide, by decide, Nat.zero_le _, Nat.zero_le _⟩ o1 ?_
      exact k
    · have k := k.2 hc
      refine aw_sipush dX10_packet_23 ⟨by decide, by decide⟩ (by decide) ?_
      exact aw_iret dX10_packet_26 rfl k
  · have k := k.2 (b2i_0.mp hc)
    refine aw_sipush dX10_packet_12 ⟨by decide, by decide⟩ (by decide) ?_
    exact aw_iret dX10_packet_15 rfl k
theorem rn_X10_packet {G : GG} {Q : Option VV → Hp → Prop} {v0 v1 : Int} {h : Hp} (k : ((0 ≤ v1 ∧ v1 ≤ 4) → (h v0 (-1) = 11) ∧ ((¬ (h v0 21) = 0) → Runs G mm_X10_firstPacket [vR v0] h (fun r h' => AW G mm_X10_packet (0, 0) 33 [(0, vR v0), (1, vI v1)] (r.toList ++ [vI 11]) h' Q)) ∧ (((h v0 21) = 0) → Q (some (vI (-1003))) h)) ∧ ((¬ (0 ≤ v1 ∧ v1 ≤ 4)) → Q (some (vI (-1002))) h)) : Runs G mm_X10_packet [vR v0, vI v1] h Q := Runs.of (by decide +kernel) (Nat.le_of_ble_eq_true rfl) (sg_X10_packet_0 (b := (0, 0)) k)
set_option maxRecDepth 20000 in
theorem sg_X10_packet_33 {G : GG} {b : Nat × Nat} {Q : Option VV → Hp → Prop} {v0 v1 s0 s1 : Int} {h : Hp} (k : (inI (s1 * s0)) ∧ ((¬ v1 = 0) → ((¬ v1 = 1) → ((¬ v1 = 2) → ((¬ v1 = 3) → (h v0 (-1) = 11) ∧ (inI ((s1 * s0) + 8)) ∧ (h (h v0 20) (-1) = 20) ∧ (0 ≤ ((s1 * s0) + 8)) ∧ (((s1 * s0) + 8) < h (h v0 20) (-2)) ∧ Q (some (vI (h (h v0 20) ((s1 * s0) + 8)))) h) ∧ ((v1 = 3) → (h v0 (-1) = 11) ∧ (inI ((s1 * s0) + 9)) ∧ (h (h v0 20) (-1) = 20) ∧ (0 ≤ ((s1 * s0) + 9)) ∧ (((s1 * s0) + 9) < h (h v0 20) (-2)) ∧ Q (some (vI (h (h v0 20) ((s1 * s0) + 9)))) h)) ∧ ((v1 = 2) → (h v0 (-1) = 11) ∧ (inI ((s1 * s0) + 2)) ∧ (h (h v0 20) (-1) = 20) ∧ (0 ≤ ((s1 * s0) + 2)) ∧ (((s1 * s0) + 2) < h (h v0 20) (-2)) ∧ Q (some (vI (h (h v0 20) ((s1 * s0) + 2)))) h)) ∧ ((v1 = 1) → (h v0 (-1) = 11) ∧ (inI ((s1 * s0) + 1)) ∧ (h (h v0 20) (-1) = 20) ∧ (0 ≤ ((s1 * s0) + 1)) ∧ (((s1 * s0) + 1) < h (h v0 20) (-2)) ∧ Q (some (vI (h (h v0 20) ((s1 * s0) + 1)))) h)) ∧ ((v1 = 0) → (h v0 (-1) = 11) ∧ (inI ((s1 * s0) + 0)) ∧ (h (h v0 20) (-1) = 20) ∧ (0 ≤ ((s1 * s0) + 0)) ∧ (((s1 * s0) + 0) < h (h v0 20) (-2)) ∧ Q (some (vI (h (h v0 20) ((s1 * s0) + 0)))) h)) : AW G mm_X10_packet b 33 [(0, vR v0), (1, vI v1)] [vI s0, vI s1] h Q := by
  obtain ⟨o1, k⟩ := k
  refine aw_imul dX10_packet_33 o1 ?_
  refine aw_istore_n dX10_packet_34 rfl (by decide) ?_
  refine aw_iload_n 2 dX10_packet_35 rfl rfl ?_
  refine aw_if_ne (tgt := 50) dX10_packet_36 (by decide) (fun hc => ?_) (fun hc => ?_)
  · have k := k.1 hc
    refine aw_iload_n 2 dX10_packet_50 rfl rfl ?_
    refine aw_iconst dX10_packet_51 ⟨by decide, by decide⟩ ?_
    refine aw_icmp_ne (tgt := 66) dX10_packet_52 (by decide) (fun hc => ?_) (fun hc => ?_)
    · have k := k.1 hc
      refine aw_iload_n 2 dX10_packet_66 rfl rfl ?_
      refine aw_iconst dX10_packet_67 ⟨by decide, by decide⟩ ?_
      refine aw_icmp_ne (tgt := 82) dX10_packet_68 (by decide) (fun hc => ?_) (fun hc => ?_)
      · have k := k.1 hc
        refine aw_iload_n 2 dX10_packet_82 rfl rfl ?_
        refine aw_iconst dX10_packet_83 ⟨by decide, by decide⟩ ?_
        refine aw_icmp_ne (tgt := 99) dX10_packet_84 (by decide) (fun hc => ?_) (fun hc => ?_)
        · have k := k.1 hc
          refine aw_aload_n 1 dX10_packet_99 rfl rfl ?_
          obtain ⟨o2, k⟩ := k
          refine aw_getR dX10_packet_100 fl_X10_68 rfl o2 (x := (h v0 20)) rfl ?_
          refine aw_iload_n 0 dX10_packet_103 rfl rfl ?_
          refine aw_bipush dX10_packet_104 ⟨by decide, by decide⟩ (by decide) ?_
          obtain ⟨o3, k⟩ := k
          refine aw_iadd dX10_packet_106 o3 ?_
          obtain ⟨o4, k⟩ := k
          obtain ⟨o5, k⟩ := k
          obtain ⟨o6, k⟩ := k
          refine aw_iald dX10_packet_107 o4 o5 o6 (x := (h (h v0 20) ((s1 * s0) + 8))) rfl ?_
          exact aw_iret dX10_packet_108 rfl k
        · have k := k.2 hc
          refine aw_aload_n 1 dX10_packet_87 rfl rfl ?_
          obtain ⟨o7, k⟩ := k
          refine aw_getR dX10_packet_88 fl_X10_68 rfl o7 (x := (h v0 20)) rfl ?_
          refine aw_iload_n 0 dX10_packet_91 rfl rfl ?_
          refine aw_bipush dX10_packet_92 ⟨by decide, by decide⟩ (by decide) ?_
          obtain ⟨o8, k⟩ := k
          refine aw_iadd dX10_packet_94 o8 ?_
          obtain ⟨o9, k⟩ := k
          obtain ⟨o10, k⟩ := k
          obtain ⟨o11, k⟩ := k
          refine aw_iald dX10_packet_95 o9 o10 o11 (x := (h (h v0 20) ((s1 * s0) + 9))) rfl ?_
          refine aw_goto (tgt := 108) dX10_packet_96 (by decide) ?_
          exact aw_iret dX10_packet_108 rfl k
      · have k := k.2 hc
        refine aw_aload_n 1 dX10_packet_71 rfl rfl ?_
        obtain ⟨o12, k⟩ := k
        refine aw_getR dX10_packet_72 fl_X10_68 rfl o12 (x := (h v0 20)) rfl ?_
        refine aw_iload_n 0 dX10_packet_75 rfl rfl ?_
        refine aw_iconst dX10_packet_76 ⟨by decide, by decide⟩ ?_
        obtain ⟨o13, k⟩ := k
        refine aw_iadd dX10_packet_77 o13 ?_
        obtain ⟨o14, k⟩ := k
        obtain ⟨o15, k⟩ := k
        obtain ⟨o16, k⟩ := k
        refine aw_iald dX10_packet_78 o14 o15 o16 (x := (h (h v0 20) ((s1 * s0) + 2))) rfl ?_
        refine aw_goto (tgt := 108) dX10_packet_79 (by decide) ?_
        exact aw_iret dX10_packet_108 rfl k
    · have k := k.2 hc
      refine aw_aload_n 1 dX10_packet_55 rfl rfl ?_
      obtain ⟨o17, k⟩ := k
      refine aw_getR dX10_packet_56 fl_X10_68 rfl o17 (x := (h v0 20)) rfl ?_
      refine aw_iload_n 0 dX10_packet_59 rfl rfl ?_
      refine aw_iconst dX10_packet_60 ⟨by decide, by decide⟩ ?_
      obtain ⟨o18, k⟩ := k
      refine aw_iadd dX10_packet_61 o18 ?_
      obtain ⟨o19, k⟩ := k
      obtain ⟨o20, k⟩ := k
      obtain ⟨o21, k⟩ := k
      refine aw_iald dX10_packet_62 o19 o20 o21 (x := (h (h v0 20) ((s1 * s0) + 1))) rfl ?_
      refine aw_goto (tgt := 108) dX10_packet_63 (by decide) ?_
      exact aw_iret dX10_packet_108 rfl k
  · have k := k.2 hc
    refine aw_aload_n 1 dX10_packet_39 rfl rfl ?_
    obtain ⟨o22, k⟩ := k
    refine aw_getR dX10_packet_40 fl_X10_68 rfl o22 (x := (h v0 20)) rfl ?_
    refine aw_iload_n 0 dX10_packet_43 rfl rfl ?_
    refine aw_iconst dX10_packet_44 ⟨by decide, by decide⟩ ?_
    obtain ⟨o23, k⟩ := k
    refine aw_iadd dX10_packet_45 o23 ?_
    obtain ⟨o24, k⟩ := k
    obtain ⟨o25, k⟩ := k
    obtain ⟨o26, k⟩ := k
    refine aw_iald dX10_packet_46 o24 o25 o26 (x := (h (h v0 20) ((s1 * s0) + 0))) rfl ?_
    refine aw_goto (tgt := 108) dX10_packet_47 (by decide) ?_
    exact aw_iret dX10_packet_108 rfl k
set_option maxRecDepth 20000 in
theorem sg_X10_passes_0 {G : GG} {b : Nat × Nat} {Q : Option VV → Hp → Prop} {v0 v1 v2 v3 : Int} {h : Hp} (k : (h v0 (-1) = 11) ∧ (inI (v2 + 1)) ∧ (h (h v0 8) (-1) = 20) ∧ (0 ≤ v1) ∧ (v1 < h (h v0 8) (-2)) ∧ ∀ h1, h1 = wr h (h v0 8) v1 (v2 + 1) → (h (h v0 13) (-1) = 21) ∧ (v1 < h (h v0 13) (-2)) ∧ ∀ h2, h2 = wr h1 (h v0 13) v1 0 → Runs G mm_X10_sends [vR v0, vI v1, vI 1, vI v2, vI v3, vI (-1)] h2 (fun r h' => AW G mm_X10_passes b 25 [] (r.toList ++ []) h' Q)) : AW G mm_X10_passes b 0 [(0, vR v0), (1, vI v1), (2, vI v2), (3, vI v3)] [] h Q := by
  refine aw_aload_n 0 dX10_passes_0 rfl rfl ?_
  obtain ⟨o1, k⟩ := k
  refine aw_getR dX10_passes_1 fl_X10_34 rfl o1 (x := (h v0 8)) rfl ?_
  refine aw_iload_n 1 dX10_passes_4 rfl rfl ?_
  refine aw_iload_n 2 dX10_passes_5 rfl rfl ?_
  refine aw_iconst dX10_passes_6 ⟨by decide, by decide⟩ ?_
  obtain ⟨o2, k⟩ := k
  refine aw_iadd dX10_passes_7 o2 ?_
  obtain ⟨o3, k⟩ := k
  obtain ⟨o4, k⟩ := k
  obtain ⟨o5, k⟩ := k
  refine aw_iast dX10_passes_8 o3 o4 o5 ?_
  refine aw_hp (fun h1 e6 => ?_)
  have k := k h1 e6
  refine aw_aload_n 0 dX10_passes_9 rfl rfl ?_
  have q7 := sh_w e6 o4 o1
  refine aw_getR dX10_passes_10 fl_X10_49 rfl q7 (x := (h v0 13)) (rd_a e6 v0 13 (ne_sh o3 o1 (by decide))) ?_
  refine aw_iload_n 1 dX10_passes_13 rfl rfl ?_
  refine aw_iconst dX10_passes_14 ⟨by decide, by decide⟩ ?_
  obtain ⟨o8, k⟩ := k
  obtain ⟨o9, k⟩ := k
  have q10 := sh_w e6 o4 o8
  refine aw_zast dX10_passes_15 q10 o4 (lt_l (ln_w e6 (h v0 13) o4) o9) (by decide) ?_
  refine aw_hp (fun h2 e11 => ?_)
  have k := k h2 e11
  refine aw_aload_n 0 dX10_passes_16 rfl rfl ?_
  refine aw_iload_n 1 dX10_passes_17 rfl rfl ?_
  refine aw_iconst dX10_passes_18 ⟨by decide, by decide⟩ ?_
  refine aw_iload_n 2 dX10_passes_19 rfl rfl ?_
  refine aw_iload_n 3 dX10_passes_20 rfl rfl ?_
  refine aw_iconst dX10_passes_21 ⟨by decide, by decide⟩ ?_
  have q12 := sh_w e11 o4 q7
  refine aw_callV (M' := mm_X10_sends) 10 [vI v1, vI 1, vI v2, vI v3, vI (-1)] [] lk_X10_248 ⟨_, rfl, rfl⟩ dX10_passes_22 rfl (Nat.le_of_ble_eq_true rfl) ⟨by decide, by decide, Nat.zero_le _, Nat.zero_le _⟩ q12 ?_
  exact k.mono (fun _ _ z => aw_sub [] rfl z)
theorem rn_X10_passes {G : GG} {Q : Option VV → Hp → Prop} {v0 v1 v2 v3 : Int} {h : Hp} (k : (h v0 (-1) = 11) ∧ (inI (v2 + 1)) ∧ (h (h v0 8) (-1) = 20) ∧ (0 ≤ v1) ∧ (v1 < h (h v0 8) (-2)) ∧ ∀ h1, h1 = wr h (h v0 8) v1 (v2 + 1) → (h (h v0 13) (-1) = 21) ∧ (v1 < h (h v0 13) (-2)) ∧ ∀ h2, h2 = wr h1 (h v0 13) v1 0 → Runs G mm_X10_sends [vR v0, vI v1, vI 1, vI v2, vI v3, vI (-1)] h2 (fun r h' => AW G mm_X10_passes (0, 0) 25 [] (r.toList ++ []) h' Q)) : Runs G mm_X10_passes [vR v0, vI v1, vI v2, vI v3] h Q := Runs.of (by decide +kernel) (Nat.le_of_ble_eq_true rfl) (sg_X10_passes_0 (b := (0, 0)) k)
set_option maxRecDepth 20000 in
theorem sg_X10_passes_25 {G : GG} {b : Nat × Nat} {Q : Option VV → Hp → Prop} {h : Hp} (k : Q none h) : AW G mm_X10_passes b 25 [] [] h Q := by
  exact aw_vret dX10_passes_25 rfl k
