/-! printed by writeseg.py: segments of methods -/
set_option maxRecDepth 20000 in
theorem sg_X9_key_0 {G : GG} {b : Nat × Nat} {Q : Option VV → Hp → Prop} {v0 v1 v2 v3 v4 v5 : Int} {h : Hp} (k : ((v1 < 0 ∨ 1 < v1) → Q (some (vI (-1001))) h) ∧ ((¬ (v1 < 0 ∨ 1 < v1)) → ((¬ (v2 < 0 ∨ 3 < v2)) → ((v3 < 0 ∨ 11 < v3) → Q (some (vI (-1002))) h) ∧ ((¬ (v3 < 0 ∨ 11 < v3)) → (inI (12 - v3)) ∧ ((v4 < 1 ∨ (12 - v3) < v4) → Q (some (vI (-1002))) h) ∧ ((¬ (v4 < 1 ∨ (12 - v3) < v4)) → ((¬ (v5 < 0 ∨ 7 < v5)) → (h v0 (-1) = 10) ∧ (h (h v0 0) (-1) = 32) ∧ (0 ≤ v1) ∧ (v1 < h (h v0 0) (-2)) ∧ (h (h (h v0 0) v1) (-1) = 3) ∧ Runs G mm_X2_setKey [vR (h (h v0 0) v1), vI v2, vI v3, vI v4, vI v5] h (fun r h' => AW G mm_X9_key b 68 [(0, vR v0), (1, vI v1)] (r.toList ++ []) h' Q)) ∧ ((v5 < 0 ∨ 7 < v5) → Q (some (vI (-1002))) h)))) ∧ ((v2 < 0 ∨ 3 < v2) → Q (some (vI (-1001))) h))) : AW G mm_X9_key b 0 [(0, vR v0), (1, vI v1), (2, vI v2), (3, vI v3), (4, vI v4), (5, vI v5)] [] h Q := by
  refine aw_iload_n 1 dX9_key_0 rfl rfl ?_
  refine aw_callS (M' := mm_X9_isNoHost) [vI v1] [] lk_X9_116 dX9_key_1 rfl (Nat.le_of_ble_eq_true rfl) ⟨by decide, by decide, Nat.zero_le _, Nat.zero_le _⟩ ?_
  refine pu_X9_isNoHost ?_
  refine aw_if_ne (tgt := 14) dX9_key_4 (by decide) (fun hc => ?_) (fun hc => ?_)
  · have k := k.1 (b2i_n.mp hc)
    refine aw_sipush dX9_key_14 ⟨by decide, by decide⟩ (by decide) ?_
    exact aw_iret dX9_key_17 rfl k
  · have k := k.2 (b2i_0.mp hc)
    refine aw_iload_n 2 dX9_key_7 rfl rfl ?_
    refine aw_callS (M' := mm_X9_isNoKey) [vI v2] [] lk_X9_125 dX9_key_8 rfl (Nat.le_of_ble_eq_true rfl) ⟨by decide, by decide, Nat.zero_le _, Nat.zero_le _⟩ ?_
    refine pu_X9_isNoKey ?_
    refine aw_if_eq (tgt := 18) dX9_key_11 (by decide) (fun hc => ?_) (fun hc => ?_)
    · have k := k.1 (b2i_0.mp hc)
      refine aw_iload_n 3 dX9_key_18 rfl rfl ?_
      refine aw_callS (M' := mm_X9_isNoCell) [vI v3] [] lk_X9_119 dX9_key_19 rfl (Nat.le_of_ble_eq_true rfl) ⟨by decide, by decide, Nat.zero_le _, Nat.zero_le _⟩ ?_
      refine pu_X9_isNoCell ?_
      refine aw_if_ne (tgt := 49) dX9_key_22 (by decide) (fun hc => ?_) (fun hc => ?_)
      · have k := k.1 (b2i_n.mp hc)
        refine aw_sipush dX9_key_49 ⟨by decide, by decide⟩ (by decide) ?_
        exact aw_iret dX9_key_52 rfl k
      · have k := k.2 (b2i_0.mp hc)
        refine aw_iload 4 dX9_key_25 rfl ?_
        refine aw_iconst dX9_key_27 ⟨by decide, by decide⟩ ?_
        refine aw_bipush dX9_key_28 ⟨by decide, by decide⟩ (by decide) ?_
        refine aw_iload_n 3 dX9_key_30 rfl rfl ?_
        obtain ⟨o1, k⟩ := k
        refine aw_isub dX9_key_31 o1 ?_
        refine aw_callS (M' := mm_X9_isOutside) [vI v4, vI 1, vI (12 - v3)] [] lk_X9_47 dX9_key_32 rfl (Nat.le_of_ble_eq_true rfl) ⟨by decide, by decide, Nat.zero_le _, Nat.zero_le _⟩ ?_
        refine pu_X9_isOutside ?_
        refine aw_if_ne (tgt := 49) dX9_key_35 (by decide) (fun hc => ?_) (fun hc => ?_)
        · have k := k.1 (b2i_n.mp hc)
          refine aw_sipush dX9_key_49 ⟨by decide, by decide⟩ (by decide) ?_
          exact aw_iret dX9_key_52 rfl k
        · have k := k.2 (b2i_0.mp hc)
          refine aw_iload 5 dX9_key_38 rfl ?_
          refine aw_iconst dX9_key_40 ⟨by decide, by decide⟩ ?_
          refine aw_bipush dX9_key_41 ⟨by decide, by decide⟩ (by decide) ?_
          refine aw_callS (M' := mm_X9_isOutside) [vI v5, vI 0, vI 7] [] lk_X9_47 dX9_key_43 rfl (Nat.le_of_ble_eq_true rfl) ⟨by decide, by decide, Nat.zero_le _, Nat.zero_le _⟩ ?_
          refine pu_X9_isOutside ?_
          refine aw_if_eq (tgt := 53) dX9_key_46 (by decide) (fun hc => ?_) (fun hc => ?_)
          · have k := k.1 (b2i_0.mp hc)
            refine aw_aload_n 0 dX9_key_53 rfl rfl ?_
            obtain ⟨o2, k⟩ := k
            refine aw_getR dX9_key_54 fl_X9_11 rfl o2 (x := (h v0 0)) rfl ?_
            refine aw_iload_n 1 dX9_key_57 rfl rfl ?_
            obtain ⟨o3, k⟩ := k
            obtain ⟨o4, k⟩ := k
            obtain ⟨o5, k⟩ := k
            refine aw_aald 4 2 aq_2 dX9_key_58 o3 o4 o5 (x := (h (h v0 0) v1)) rfl ?_
            refine aw_iload_n 2 dX9_key_59 rfl rfl ?_
            refine aw_iload_n 3 dX9_key_60 rfl rfl ?_
            refine aw_iload 4 dX9_key_61 rfl ?_
            refine aw_iload 5 dX9_key_63 rfl ?_
            obtain ⟨o6, k⟩ := k
            refine aw_callV (M' := mm_X2_setKey) 2 [vI v2, vI v3, vI v4, vI v5] [] lk_X9_89 ⟨_, rfl, rfl⟩ dX9_key_65 rfl (Nat.le_of_ble_eq_true rfl) ⟨by decide, by decide, Nat.zero_le _, Nat.zero_le _⟩ o6 ?_
            exact k.mono (fun _ _ z => aw_sub [0, 1] rfl z)
          · have k := k.2 (b2i_n.mp hc)
            refine aw_sipush dX9_key_49 ⟨by decide, by decide⟩ (by decide) ?_
            exact aw_iret dX9_key_52 rfl k
    · have k := k.2 (b2i_n.mp hc)
      refine aw_sipush dX9_key_14 ⟨by decide, by decide⟩ (by decide) ?_
      exact aw_iret dX9_key_17 rfl k
theorem rn_X9_key {G : GG} {Q : Option VV → Hp → Prop} {v0 v1 v2 v3 v4 v5 : Int} {h : Hp} (k : ((v1 < 0 ∨ 1 < v1) → Q (some (vI (-1001))) h) ∧ ((¬ (v1 < 0 ∨ 1 < v1)) → ((¬ (v2 < 0 ∨ 3 < v2)) → ((v3 < 0 ∨ 11 < v3) → Q (some (vI (-1002))) h) ∧ ((¬ (v3 < 0 ∨ 11 < v3)) → (inI (12 - v3)) ∧ ((v4 < 1 ∨ (12 - v3) < v4) → Q (some (vI (-1002))) h) ∧ ((¬ (v4 < 1 ∨ (12 - v3) < v4)) → ((¬ (v5 < 0 ∨ 7 < v5)) → (h v0 (-1) = 10) ∧ (h (h v0 0) (-1) = 32) ∧ (0 ≤ v1) ∧ (v1 < h (h v0 0) (-2)) ∧ (h (h (h v0 0) v1) (-1) = 3) ∧ Runs G mm_X2_setKey [vR (h (h v0 0) v1), vI v2, vI v3, vI v4, vI v5] h (fun r h' => AW G mm_X9_key (0, 0) 68 [(0, vR v0), (1, vI v1)] (r.toList ++ []) h' Q)) ∧ ((v5 < 0 ∨ 7 < v5) → Q (some (vI (-1002))) h)))) ∧ ((v2 < 0 ∨ 3 < v2) → Q (some (vI (-1001))) h))) : Runs G mm_X9_key [vR v0, vI v1, vI v2, vI v3, vI v4, vI v5] h Q := Runs.of (by decide +kernel) (Nat.le_of_ble_eq_true rfl) (sg_X9_key_0 (b := (0, 0)) k)
set_option maxRecDepth 20000 in
theorem sg_X9_key_68 {G : GG} {b : Nat × Nat} {Q : Option VV → Hp → Prop} {v0 v1 : Int} {h : Hp} (k : (h v0 (-1) = 10) ∧ (h (h v0 0) (-1) = 32) ∧ (0 ≤ v1) ∧ (v1 < h (h v0 0) (-2)) ∧ (h (h (h v0 0) v1) (-1) = 3) ∧ Runs G mm_X2_keyCount [vR (h (h v0 0) v1)] h (fun r h' => AW G mm_X9_key b 77 [] (r.toList ++ []) h' Q)) : AW G mm_X9_key b 68 [(0, vR v0), (1, vI v1)] [] h Q := by
  refine aw_aload_n 0 dX9_key_68 rfl rfl ?_
  obtain ⟨o1, k⟩ := k
  refine aw_getR dX9_key_69 fl_X9_11 rfl o1 (x := (h v0 0)) rfl ?_
  refine aw_iload_n 1 dX9_key_72 rfl rfl ?_
  obtain ⟨o2, k⟩ := k
  obtain ⟨o3, k⟩ := k
  obtain ⟨o4, k⟩ := k
  refine aw_aald 4 2 aq_2 dX9_key_73 o2 o3 o4 (x := (h (h v0 0) v1)) rfl ?_
  obtain ⟨o5, k⟩ := k
  refine aw_callV (M' := mm_X2_keyCount) 2 [] [] lk_X9_128 ⟨_, rfl, rfl⟩ dX9_key_74 rfl (Nat.le_of_ble_eq_true rfl) ⟨by decide, by decide, Nat.zero_le _, Nat.zero_le _⟩ o5 ?_
  exact k.mono (fun _ _ z => aw_sub [] rfl z)
set_option maxRecDepth 20000 in
theorem sg_X9_key_77 {G : GG} {b : Nat × Nat} {Q : Option VV → Hp → Prop} {s0 : Int} {h : Hp} (k : Q (some (vI s0)) h) : AW G mm_X9_key b 77 [] [vI s0] h Q := by
  exact aw_iret dX9_key_77 rfl k
set_option maxRecDepth 20000 in
theorem sg_X9_lineOf_0 {G : GG} {b : Nat × Nat} {Q : Option VV → Hp → Prop} {v0 : Int} {h : Hp} (k : (0 ≤ v0) ∧ Q (some (vI (v0 / 2))) h) : AW G mm_X9_lineOf b 0 [(0, vI v0)] [] h Q := by
  refine aw_iload_n 0 dX9_lineOf_0 rfl rfl ?_
  refine aw_iconst dX9_lineOf_1 ⟨by decide, by decide⟩ ?_
  obtain ⟨o1, k⟩ := k
  refine aw_idiv dX9_lineOf_2 o1 (by decide) ?_
  exact aw_iret dX9_lineOf_3 rfl k
theorem rn_X9_lineOf {G : GG} {Q : Option VV → Hp → Prop} {v0 : Int} {h : Hp} (k : (0 ≤ v0) ∧ Q (some (vI (v0 / 2))) h) : Runs G mm_X9_lineOf [vI v0] h Q := Runs.of (by decide +kernel) (Nat.le_of_ble_eq_true rfl) (sg_X9_lineOf_0 (b := (0, 0)) k)
set_option maxRecDepth 20000 in
theorem sg_X9_lock_0 {G : GG} {b : Nat × Nat} {Q : Option VV → Hp → Prop} {v0 v1 v2 : Int} {h : Hp} (k : ((v1 < 0 ∨ 1 < v1) → Q (some (vI (-1001))) h) ∧ ((¬ (v1 < 0 ∨ 1 < v1)) → ((¬ (v2 < 0 ∨ 3 < v2)) → (h v0 (-1) = 10) ∧ (h (h v0 0) (-1) = 32) ∧ (0 ≤ v1) ∧ (v1 < h (h v0 0) (-2)) ∧ (h (h (h v0 0) v1) (-1) = 3) ∧ (h (h (h (h v0 0) v1) 1) (-1) = 33) ∧ (0 ≤ v2) ∧ (v2 < h (h (h (h v0 0) v1) 1) (-2)) ∧ (h (h (h (h (h v0 0) v1) 1) v2) (-1) = 4) ∧ ((¬ (h (h (h (h (h v0 0) v1) 1) v2) 0) = 0) → ∀ h1, h1 = wr h (h (h (h (h v0 0) v1) 1) v2) 0 0 → Runs G mm_X2_keyCount [vR (h (h v0 0) v1)] h1 (fun r h' => AW G mm_X9_lock b 63 [] (r.toList ++ []) h' Q)) ∧ (((h (h (h (h (h v0 0) v1) 1) v2) 0) = 0) → Q (some (vI (-1003))) h)) ∧ ((v2 < 0 ∨ 3 < v2) → Q (some (vI (-1001))) h))) : AW G mm_X9_lock b 0 [(0, vR v0), (1, vI v1), (2, vI v2)] [] h Q := by
  refine aw_iload_n 1 dX9_lock_0 rfl rfl ?_
  refine aw_callS (M' := mm_X9_isNoHost) [vI v1] [] lk_X9_116 dX9_lock_1 rfl (Nat.le_of_ble_eq_true rfl) ⟨by decide, by decide, Nat.zero_le _, Nat.zero_le _⟩ ?_
  refine pu_X9_isNoHost ?_
  refine aw_if_ne (tgt := 14) dX9_lock_4 (by decide) (fun hc => ?_) (fun hc => ?_)
  · have k := k.1 (b2i_n.mp hc)
    refine aw_sipush dX9_lock_14 ⟨by decide, by decide⟩ (by decide) ?_
    exact aw_iret dX9_lock_17 rfl k
  · have k := k.2 (b2i_0.mp hc)
    refine aw_iload_n 2 dX9_lock_7 rfl rfl ?_
    refine aw_callS (M' := mm_X9_isNoKey) [vI v2] [] lk_X9_125 dX9_lock_8 rfl (Nat.le_of_ble_eq_true rfl) ⟨by decide, by decide, Nat.zero_le _, Nat.zero_le _⟩ ?_
    refine pu_X9_isNoKey ?_
    refine aw_if_eq (tgt := 18) dX9_lock_11 (by decide) (fun hc => ?_) (fun hc => ?_)
    · have k := k.1 (b2i_0.mp hc)
      refine aw_aload_n 0 dX9_lock_18 rfl rfl ?_
      obtain ⟨o1, k⟩ := k
      refine aw_getR dX9_lock_19 fl_X9_11 rfl o1 (x := (h v0 0)) rfl ?_
      refine aw_iload_n 1 dX9_lock_22 rfl rfl ?_
      obtain ⟨o2, k⟩ := k
      obtain ⟨o3, k⟩ := k
      obtain ⟨o4, k⟩ := k
      refine aw_aald 4 2 aq_2 dX9_lock_23 o2 o3 o4 (x := (h (h v0 0) v1)) rfl ?_
      obtain ⟨o5, k⟩ := k
      refine aw_getR dX9_lock_24 fl_X9_131 rfl o5 (x := (h (h (h v0 0) v1) 1)) rfl ?_
      refine aw_iload_n 2 dX9_lock_27 rfl rfl ?_
      obtain ⟨o6, k⟩ := k
      obtain ⟨o7, k⟩ := k
      obtain ⟨o8, k⟩ := k
      refine aw_aald 5 3 aq_3 dX9_lock_28 o6 o7 o8 (x := (h (h (h (h v0 0) v1) 1) v2)) rfl ?_
      obtain ⟨o9, k⟩ := k
      refine aw_getI dX9_lock_29 fl_X9_135 rfl o9 (x := (h (h (h (h (h v0 0) v1) 1) v2) 0)) rfl ?_
      refine aw_if_ne (tgt := 39) dX9_lock_32 (by decide) (fun hc => ?_) (fun hc => ?_)
      · have k := k.1 hc
        refine aw_aload_n 0 dX9_lock_39 rfl rfl ?_
        refine aw_getR dX9_lock_40 fl_X9_11 rfl o1 (x := (h v0 0)) rfl ?_
        refine aw_iload_n 1 dX9_lock_43 rfl rfl ?_
        refine aw_aald 4 2 aq_2 dX9_lock_44 o2 o3 o4 (x := (h (h v0 0) v1)) rfl ?_
        refine aw_getR dX9_lock_45 fl_X9_131 rfl o5 (x := (h (h (h v0 0) v1) 1)) rfl ?_
        refine aw_iload_n 2 dX9_lock_48 rfl rfl ?_
        refine aw_aald 5 3 aq_3 dX9_lock_49 o6 o7 o8 (x := (h (h (h (h v0 0) v1) 1) v2)) rfl ?_
        refine aw_iconst dX9_lock_50 ⟨by decide, by decide⟩ ?_
        refine aw_putZ dX9_lock_51 fl_X9_135 (fun q hq hf => by cases hq; cases hf) rfl rfl (by decide) o9 ?_
        refine aw_hp (fun h1 e10 => ?_)
        have k := k h1 e10
        refine aw_aload_n 0 dX9_lock_54 rfl rfl ?_
        have q11 := sh_w e10 (by decide) o1
        refine aw_getR dX9_lock_55 fl_X9_11 rfl q11 (x := (h v0 0)) (rd_a e10 v0 0 (ne_sh o9 o1 (by decide))) ?_
        refine aw_iload_n 1 dX9_lock_58 rfl rfl ?_
        have q12 := sh_w e10 (by decide) o2
        refine aw_aald 4 2 aq_2 dX9_lock_59 q12 o3 (lt_l (ln_w e10 (h v0 0) (by decide)) o4) (x := (h (h v0 0) v1)) (rd_a e10 (h v0 0) v1 (ne_sh o9 o2 (by decide))) ?_
        have q13 := sh_w e10 (by decide) o5
        refine aw_callV (M' := mm_X2_keyCount) 2 [] [] lk_X9_128 ⟨_, rfl, rfl⟩ dX9_lock_60 rfl (Nat.le_of_ble_eq_true rfl) ⟨by decide, by decide, Nat.zero_le _, Nat.zero_le _⟩ q13 ?_
        exact k.mono (fun _ _ z => aw_sub [] rfl z)
      · have k := k.2 hc
        refine aw_sipush dX9_lock_35 ⟨by decide, by decide⟩ (by decide) ?_
        exact aw_iret dX9_lock_38 rfl k
    · have k := k.2 (b2i_n.mp hc)
      refine aw_sipush dX9_lock_14 ⟨by decide, by decide⟩ (by decide) ?_
      exact aw_iret dX9_lock_17 rfl k
theorem rn_X9_lock {G : GG} {Q : Option VV → Hp → Prop} {v0 v1 v2 : Int} {h : Hp} (k : ((v1 < 0 ∨ 1 < v1) → Q (some (vI (-1001))) h) ∧ ((¬ (v1 < 0 ∨ 1 < v1)) → ((¬ (v2 < 0 ∨ 3 < v2)) → (h v0 (-1) = 10) ∧ (h (h v0 0) (-1) = 32) ∧ (0 ≤ v1) ∧ (v1 < h (h v0 0) (-2)) ∧ (h (h (h v0 0) v1) (-1) = 3) ∧ (h (h (h (h v0 0) v1) 1) (-1) = 33) ∧ (0 ≤ v2) ∧ (v2 < h (h (h (h v0 0) v1) 1) (-2)) ∧ (h (h (h (h (h v0 0) v1) 1) v2) (-1) = 4) ∧ ((¬ (h (h (h (h (h v0 0) v1) 1) v2) 0) = 0) → ∀ h1, h1 = wr h (h (h (h (h v0 0) v1) 1) v2) 0 0 → Runs G mm_X2_keyCount [vR (h (h v0 0) v1)] h1 (fun r h' => AW G mm_X9_lock (0, 0) 63 [] (r.toList ++ []) h' Q)) ∧ (((h (h (h (h (h v0 0) v1) 1) v2) 0) = 0) → Q (some (vI (-1003))) h)) ∧ ((v2 < 0 ∨ 3 < v2) → Q (some (vI (-1001))) h))) : Runs G mm_X9_lock [vR v0, vI v1, vI v2] h Q := Runs.of (by decide +kernel) (Nat.le_of_ble_eq_true rfl) (sg_X9_lock_0 (b := (0, 0)) k)
set_option maxRecDepth 20000 in
theorem sg_X9_lock_63 {G : GG} {b : Nat × Nat} {Q : Option VV → Hp → Prop} {s0 : Int} {h : Hp} (k : Q (some (vI s0)) h) : AW G mm_X9_lock b 63 [] [vI s0] h Q := by
  exact aw_iret dX9_lock_63 rfl k
set_option maxRecDepth 20000 in
theorem sg_X9_open_0 {G : GG} {b : Nat × Nat} {Q : Option VV → Hp → Prop} {v0 v1 v2 v3 : Int} {h : Hp} (k : ((v1 < 0 ∨ 3 < v1) → Q (some (vI (-1001))) h) ∧ ((¬ (v1 < 0 ∨ 3 < v1)) → (h v0 (-1) = 10) ∧ (h (h v0 1) (-1) = 31) ∧ (0 ≤ v1) ∧ (v1 < h (h v0 1) (-2)) ∧ (h (h (h v0 1) v1) (-1) = 2) ∧ (inI ((h (h (h v0 1) v1) 8) - 1)) ∧ ((¬ (v2 < 0 ∨ ((h (h (h v0 1) v1) 8) - 1) < v2)) → (h (h (h (h v0 1) v1) 3) (-1) = 38) ∧ (0 ≤ v2) ∧ (v2 < h (h (h (h v0 1) v1) 3) (-2)) ∧ ((v3 = 0) → (h (h (h (h (h v0 1) v1) 3) v2) (-1) = 9) ∧ Q (some (vI (h (h (h (h (h v0 1) v1) 3) v2) 0))) h) ∧ ((v3 = 1) → (h (h (h (h (h v0 1) v1) 3) v2) (-1) = 9) ∧ Q (some (vI (h (h (h (h (h v0 1) v1) 3) v2) 1))) h) ∧ ((v3 = 2) → (h (h (h (h (h v0 1) v1) 3) v2) (-1) = 9) ∧ Q (some (vI (h (h (h (h (h v0 1) v1) 3) v2) 2))) h) ∧ ((v3 = 3) → (h (h (h (h (h v0 1) v1) 3) v2) (-1) = 9) ∧ Q (some (vI (h (h (h (h (h v0 1) v1) 3) v2) 3))) h) ∧ ((v3 = 4) → (h (h (h (h (h v0 1) v1) 3) v2) (-1) = 9) ∧ Q (some (vI (h (h (h (h (h v0 1) v1) 3) v2) 4))) h) ∧ ((v3 < 0 ∨ 4 < v3) → Q (some (vI (-1002))) h)) ∧ ((v2 < 0 ∨ ((h (h (h v0 1) v1) 8) - 1) < v2) → Q (some (vI (-1001))) h))) : AW G mm_X9_open b 0 [(0, vR v0), (1, vI v1), (2, vI v2), (3, vI v3)] [] h Q := by
  refine aw_iload_n 1 dX9_open_0 rfl rfl ?_
  refine aw_callS (M' := mm_X9_isNoEnd) [vI v1] [] lk_X9_170 dX9_open_1 rfl (Nat.le_of_ble_eq_true rfl) ⟨by decide, by decide, Nat.zero_le _, Nat.zero_le _⟩ ?_
  refine pu_X9_isNoEnd ?_
  refine aw_if_ne (tgt := 26) dX9_open_4 (by decide) (fun hc => ?_) (fun hc => ?_)
  · have k := k.1 (b2i_n.mp hc)
    refine aw_sipush dX9_open_26 ⟨by decide, by decide⟩ (by decide) ?_
    exact aw_iret dX9_open_29 rfl k
  · have k := k.2 (b2i_0.mp hc)
    refine aw_iload_n 2 dX9_open_7 rfl rfl ?_
    refine aw_iconst dX9_open_8 ⟨by decide, by decide⟩ ?_
    refine aw_aload_n 0 dX9_open_9 rfl rfl ?_
    obtain ⟨o1, k⟩ := k
    refine aw_getR dX9_open_10 fl_X9_17 rfl o1 (x := (h v0 1)) rfl ?_
    refine aw_iload_n 1 dX9_open_13 rfl rfl ?_
    obtain ⟨o2, k⟩ := k
    obtain ⟨o3, k⟩ := k
    obtain ⟨o4, k⟩ := k
    refine aw_aald 3 1 aq_1 dX9_open_14 o2 o3 o4 (x := (h (h v0 1) v1)) rfl ?_
    obtain ⟨o5, k⟩ := k
    refine aw_getI dX9_open_15 fl_X9_173 rfl o5 (x := (h (h (h v0 1) v1) 8)) rfl ?_
    refine aw_iconst dX9_open_18 ⟨by decide, by decide⟩ ?_
    obtain ⟨o6, k⟩ := k
    refine aw_isub dX9_open_19 o6 ?_
    refine aw_callS (M' := mm_X9_isOutside) [vI v2, vI 0, vI ((h (h (h v0 1) v1) 8) - 1)] [] lk_X9_47 dX9_open_20 rfl (Nat.le_of_ble_eq_true rfl) ⟨by decide, by decide, Nat.zero_le _, Nat.zero_le _⟩ ?_
    refine pu_X9_isOutside ?_
    refine aw_if_eq (tgt := 30) dX9_open_23 (by decide) (fun hc => ?_) (fun hc => ?_)
    · have k := k.1 (b2i_0.mp hc)
      refine aw_aload_n 0 dX9_open_30 rfl rfl ?_
      refine aw_getR dX9_open_31 fl_X9_17 rfl o1 (x := (h v0 1)) rfl ?_
      refine aw_iload_n 1 dX9_open_34 rfl rfl ?_
      refine aw_aald 3 1 aq_1 dX9_open_35 o2 o3 o4 (x := (h (h v0 1) v1)) rfl ?_
      refine aw_getR dX9_open_36 fl_X9_268 rfl o5 (x := (h (h (h v0 1) v1) 3)) rfl ?_
      refine aw_iload_n 2 dX9_open_39 rfl rfl ?_
      obtain ⟨o7, k⟩ := k
      obtain ⟨o8, k⟩ := k
      obtain ⟨o9, k⟩ := k
      refine aw_aald 7 8 aq_8 dX9_open_40 o7 o8 o9 (x := (h (h (h (h v0 1) v1) 3) v2)) rfl ?_
      refine aw_astore dX9_open_41 (by decide) ?_
      refine aw_iload_n 4 dX9_open_43 rfl rfl ?_
      rcases (show v3 = 0 ∨ v3 = 1 ∨ v3 = 2 ∨ v3 = 3 ∨ v3 = 4 ∨ (v3 < 0 ∨ 4 < v3) by omega) with hc | hc | hc | hc | hc | hc
      · have k := k.1 hc
        refine aw_tableIn (x := v3) (tgt := 80) dX9_open_44 (by omega) (by omega) (by rw [hc]; rfl) (by decide) ?_
        refine aw_aload 0 dX9_open_80 rfl ?_
        obtain ⟨o10, k⟩ := k
        refine aw_getI dX9_open_82 fl_X9_272 rfl o10 (x := (h (h (h (h (h v0 1) v1) 3) v2) 0)) rfl ?_
        exact aw_iret dX9_open_85 rfl k
      · have k := k.2.1 hc
        refine aw_tableIn (x := v3) (tgt := 86) dX9_open_44 (by omega) (by omega) (by rw [hc]; rfl) (by decide) ?_
        refine aw_aload 0 dX9_open_86 rfl ?_
        obtain ⟨o11, k⟩ := k
        refine aw_getI dX9_open_88 fl_X9_275 rfl o11 (x := (h (h (h (h (h v0 1) v1) 3) v2) 1)) rfl ?_
        exact aw_iret dX9_open_91 rfl k
      · have k := k.2.2.1 hc
        refine aw_tableIn (x := v3) (tgt := 92) dX9_open_44 (by omega) (by omega) (by rw [hc]; rfl) (by decide) ?_
        refine aw_aload 0 dX9_open_92 rfl ?_
        obtain ⟨o12, k⟩ := k
        refine aw_getI dX9_open_94 fl_X9_276 rfl o12 (x := (h (h (h (h (h v0 1) v1) 3) v2) 2)) rfl ?_
        exact aw_iret dX9_open_97 rfl k
      · have k := k.2.2.2.1 hc
        refine aw_tableIn (x := v3) (tgt := 98) dX9_open_44 (by omega) (by omega) (by rw [hc]; rfl) (by decide) ?_
        refine aw_aload 0 dX9_open_98 rfl ?_
        obtain ⟨o13, k⟩ := k
        refine aw_getI dX9_open_100 fl_X9_279 rfl o13 (x := (h (h (h (h (h v0 1) v1) 3) v2) 3)) rfl ?_
        exact aw_iret dX9_open_103 rfl k
      · have k := k.2.2.2.2.1 hc
        refine aw_tableIn (x := v3) (tgt := 104) dX9_open_44 (by omega) (by omega) (by rw [hc]; rfl) (by decide) ?_
        refine aw_aload 0 dX9_open_104 rfl ?_
        obtain ⟨o14, k⟩ := k
        refine aw_getI dX9_open_106 fl_X9_282 rfl o14 (x := (h (h (h (h (h v0 1) v1) 3) v2) 4)) rfl ?_
        exact aw_iret dX9_open_109 rfl k
      · have k := k.2.2.2.2.2 hc
        refine aw_tableOut (x := v3) (tgt := 110) dX9_open_44 hc (by decide) ?_
        refine aw_sipush dX9_open_110 ⟨by decide, by decide⟩ (by decide) ?_
        exact aw_iret dX9_open_113 rfl k
    · have k := k.2 (b2i_n.mp hc)
      refine aw_sipush dX9_open_26 ⟨by decide, by decide⟩ (by decide) ?_
      exact aw_iret dX9_open_29 rfl k
theorem rn_X9_open {G : GG} {Q : Option VV → Hp → Prop} {v0 v1 v2 v3 : Int} {h : Hp} (k : ((v1 < 0 ∨ 3 < v1) → Q (some (vI (-1001))) h) ∧ ((¬ (v1 < 0 ∨ 3 < v1)) → (h v0 (-1) = 10) ∧ (h (h v0 1) (-1) = 31) ∧ (0 ≤ v1) ∧ (v1 < h (h v0 1) (-2)) ∧ (h (h (h v0 1) v1) (-1) = 2) ∧ (inI ((h (h (h v0 1) v1) 8) - 1)) ∧ ((¬ (v2 < 0 ∨ ((h (h (h v0 1) v1) 8) - 1) < v2)) → (h (h (h (h v0 1) v1) 3) (-1) = 38) ∧ (0 ≤ v2) ∧ (v2 < h (h (h (h v0 1) v1) 3) (-2)) ∧ ((v3 = 0) → (h (h (h (h (h v0 1) v1) 3) v2) (-1) = 9) ∧ Q (some (vI (h (h (h (h (h v0 1) v1) 3) v2) 0))) h) ∧ ((v3 = 1) → (h (h (h (h (h v0 1) v1) 3) v2) (-1) = 9) ∧ Q (some (vI (h (h (h (h (h v0 1) v1) 3) v2) 1))) h) ∧ ((v3 = 2) → (h (h (h (h (h v0 1) v1) 3) v2) (-1) = 9) ∧ Q (some (vI (h (h (h (h (h v0 1) v1) 3) v2) 2))) h) ∧ ((v3 = 3) → (h (h (h (h (h v0 1) v1) 3) v2) (-1) = 9) ∧ Q (some (vI (h (h (h (h (h v0 1) v1) 3) v2) 3))) h) ∧ ((v3 = 4) → (h (h (h (h (h v0 1) v1) 3) v2) (-1) = 9) ∧ Q (some (vI (h (h (h (h (h v0 1) v1) 3) v2) 4))) h) ∧ ((v3 < 0 ∨ 4 < v3) → Q (some (vI (-1002))) h)) ∧ ((v2 < 0 ∨ ((h (h (h v0 1) v1) 8) - 1) < v2) → Q (some (vI (-1001))) h))) : Runs G mm_X9_open [vR v0, vI v1, vI v2, vI v3] h Q := Runs.of (by decide +kernel) (Nat.le_of_ble_eq_true rfl) (sg_X9_open_0 (b := (0, 0)) k)
set_option maxRecDepth 20000 in
theorem sg_X9_otherEnd_0 {G : GG} {b : Nat × Nat} {Q : Option VV → Hp → Prop} {v0 : Int} {h : Hp} (k : (0 ≤ v0) ∧ ((¬ (v0 % 2) = 0) → (inI (v0 - 1)) ∧ Q (some (vI (v0 - 1))) h) ∧ (((v0 % 2) = 0) → (inI (v0 + 1)) ∧ Q (some (vI (v0 + 1))) h)) : AW G mm_X9_otherEnd b 0 [(0, vI v0)] [] h Q := by
  refine aw_iload_n 0 dX9_otherEnd_0 rfl rfl ?_
  refine aw_iconst dX9_otherEnd_1 ⟨by decide, by decide⟩ ?_
  obtain ⟨o1, k⟩ := k
  refine aw_irem dX9_otherEnd_2 o1 (by decide) ?_
  refine aw_if_ne (tgt := 12) dX9_otherEnd_3 (by decide) (fun hc => ?_) (fun hc => ?_)
  · have k := k.1 hc
    refine aw_iload_n 0 dX9_otherEnd_12 rfl rfl ?_
    refine aw_iconst dX9_otherEnd_13 ⟨by decide, by decide⟩ ?_
    obtain ⟨o2, k⟩ := k
    refine aw_isub dX9_otherEnd_14 o2 ?_
    exact aw_iret dX9_otherEnd_15 rfl k
  · have k := k.2 hc
    refine aw_iload_n 0 dX9_otherEnd_6 rfl rfl ?_
    refine aw_iconst dX9_otherEnd_7 ⟨by decide, by decide⟩ ?_
    obtain ⟨o3, k⟩ := k
    refine aw_iadd dX9_otherEnd_8 o3 ?_
    refine aw_goto (tgt := 15) dX9_otherEnd_9 (by decide) ?_
    exact aw_iret dX9_otherEnd_15 rfl k
theorem rn_X9_otherEnd {G : GG} {Q : Option VV → Hp → Prop} {v0 : Int} {h : Hp} (k : (0 ≤ v0) ∧ ((¬ (v0 % 2) = 0) → (inI (v0 - 1)) ∧ Q (some (vI (v0 - 1))) h) ∧ (((v0 % 2) = 0) → (inI (v0 + 1)) ∧ Q (some (vI (v0 + 1))) h)) : Runs G mm_X9_otherEnd [vI v0] h Q := Runs.of (by decide +kernel) (Nat.le_of_ble_eq_true rfl) (sg_X9_otherEnd_0 (b := (0, 0)) k)
set_option maxRecDepth 20000 in
theorem sg_X9_packet_0 {G : GG} {b : Nat × Nat} {Q : Option VV → Hp → Prop} {v0 v1 : Int} {h : Hp} (k : ((¬ (v1 < 0 ∨ 4 < v1)) → (h v0 (-1) = 10) ∧ (h (h v0 2) (-1) = 8) ∧ Runs G mm_X7_firstPlace [vR (h v0 2)] h (fun r h' => AW G mm_X9_packet b 20 [(0, vR v0), (1, vI v1)] (r.toList ++ []) h' Q)) ∧ ((v1 < 0 ∨ 4 < v1) → Q (some (vI (-1002))) h)) : AW G mm_X9_packet b 0 [(0, vR v0), (1, vI v1)] [] h Q := by
  refine aw_iload_n 1 dX9_packet_0 rfl rfl ?_
  refine aw_iconst dX9_packet_1 ⟨by decide, by decide⟩ ?_
  refine aw_iconst dX9_packet_2 ⟨by decide, by decide⟩ ?_
  refine aw_callS (M' := mm_X9_isOutside) [vI v1, vI 0, vI 4] [] lk_X9_47 dX9_packet_3 rfl (Nat.le_of_ble_eq_true rfl) ⟨by decide, by decide, Nat.zero_le _, Nat.zero_le _⟩ ?_
  refine pu_X9_isOutside ?_
  refine aw_if_eq (tgt := 13) dX9_packet_6 (by decide) (fun hc => ?_) (fun hc => ?_)
  · have k := k.1 (b2i_0.mp hc)
    refine aw_aload_n 0 dX9_packet_13 rfl rfl ?_
    obtain ⟨o1, k⟩ := k
    refine aw_getR dX9_packet_14 fl_X9_24 rfl o1 (x := (h v0 2)) rfl ?_
    obtain ⟨o2, k⟩ := k
    refine aw_callV (M' := mm_X7_firstPlace) 7 [] [] lk_X9_285 ⟨_, rfl, rfl⟩ dX9_packet_17 rfl (Nat.le_of_ble_eq_true rfl) ⟨by decide, by decide, Nat.zero_le _, Nat.zero_le _⟩ o2 ?_
    exact k
  · have k := k.2 (b2i_n.mp hc)
    refine aw_sipush dX9_packet_9 ⟨by decide, by decide⟩ (by decide) ?_
    exact aw_iret dX9_packet_12 rfl k
theorem rn_X9_packet {G : GG} {Q : Option VV → Hp → Prop} {v0 v1 : Int} {h : Hp} (k : ((¬ (v1 < 0 ∨ 4 < v1)) → (h v0 (-1) = 10) ∧ (h (h v0 2) (-1) = 8) ∧ Runs G mm_X7_firstPlace [vR (h v0 2)] h (fun r h' => AW G mm_X9_packet (0, 0) 20 [(0, vR v0), (1, vI v1)] (r.toList ++ []) h' Q)) ∧ ((v1 < 0 ∨ 4 < v1) → Q (some (vI (-1002))) h)) : Runs G mm_X9_packet [vR v0, vI v1] h Q := Runs.of (by decide +kernel) (Nat.le_of_ble_eq_true rfl) (sg_X9_packet_0 (b := (0, 0)) k)
set_option maxRecDepth 20000 in
theorem sg_X9_packet_20 {G : GG} {b : Nat × Nat} {Q : Option VV → Hp → Prop} {v0 v1 s0 : Int} {h : Hp} (k : ((¬ s0 = (-1)) → (h v0 (-1) = 10) ∧ (h (h v0 2) (-1) = 8) ∧ (h (h (h v0 2) 0) (-1) = 35) ∧ (0 ≤ s0) ∧ (s0 < h (h (h v0 2) 0) (-2)) ∧ ((v1 = 0) → (h (h (h (h v0 2) 0) s0) (-1) = 6) ∧ Q (some (vI (h (h (h (h v0 2) 0) s0) 0))) h) ∧ ((v1 = 1) → (h (h (h (h v0 2) 0) s0) (-1) = 6) ∧ Q (some (vI (h (h (h (h v0 2) 0) s0) 2))) h) ∧ ((v1 = 2) → (h (h (h (h v0 2) 0) s0) (-1) = 6) ∧ Q (some (vI (h (h (h (h v0 2) 0) s0) 3))) h) ∧ ((v1 = 3) → (h (h (h (h v0 2) 0) s0) (-1) = 6) ∧ Q (some (vI (h (h (h (h v0 2) 0) s0) 1))) h) ∧ ((v1 < 0 ∨ 3 < v1) → (h (h (h (h v0 2) 0) s0) (-1) = 6) ∧ Q (some (vI (h (h (h (h v0 2) 0) s0) 4))) h)) ∧ ((s0 = (-1)) → Q (some (vI (-1003))) h)) : AW G mm_X9_packet b 20 [(0, vR v0), (1, vI v1)] [vI s0] h Q := by
  refine aw_istore_n dX9_packet_20 rfl (by decide) ?_
  refine aw_iload_n 0 dX9_packet_21 rfl rfl ?_
  refine aw_iconst dX9_packet_22 ⟨by decide, by decide⟩ ?_
  refine aw_icmp_ne (tgt := 30) dX9_packet_23 (by decide) (fun hc => ?_) (fun hc => ?_)
  · have k := k.1 hc
    refine aw_aload_n 1 dX9_packet_30 rfl rfl ?_
    obtain ⟨o1, k⟩ := k
    refine aw_getR dX9_packet_31 fl_X9_24 rfl o1 (x := (h v0 2)) rfl ?_
    obtain ⟨o2, k⟩ := k
    refine aw_getR dX9_packet_34 fl_X9_288 rfl o2 (x := (h (h v0 2) 0)) rfl ?_
    refine aw_iload_n 0 dX9_packet_37 rfl rfl ?_
    obtain ⟨o3, k⟩ := k
    obtain ⟨o4, k⟩ := k
    obtain ⟨o5, k⟩ := k
    refine aw_aald 6 5 aq_5 dX9_packet_38 o3 o4 o5 (x := (h (h (h v0 2) 0) s0)) rfl ?_
    refine aw_astore_n dX9_packet_39 rfl (by decide) ?_
    refine aw_iload_n 3 dX9_packet_40 rfl rfl ?_
    rcases (show v1 = 0 ∨ v1 = 1 ∨ v1 = 2 ∨ v1 = 3 ∨ (v1 < 0 ∨ 3 < v1) by omega) with hc | hc | hc | hc | hc
    · have k := k.1 hc
      refine aw_tableIn (x := v1) (tgt := 72) dX9_packet_41 (by omega) (by omega) (by rw [hc]; rfl) (by decide) ?_
      refine aw_aload_n 0 dX9_packet_72 rfl rfl ?_
      obtain ⟨o6, k⟩ := k
      refine aw_getI dX9_packet_73 fl_X9_202 rfl o6 (x := (h (h (h (h v0 2) 0) s0) 0)) rfl ?_
      exact aw_iret dX9_packet_76 rfl k
    · have k := k.2.1 hc
      refine aw_tableIn (x := v1) (tgt := 77) dX9_packet_41 (by omega) (by omega) (by rw [hc]; rfl) (by decide) ?_
      refine aw_aload_n 0 dX9_packet_77 rfl rfl ?_
      obtain ⟨o7, k⟩ := k
      refine aw_getI dX9_packet_78 fl_X9_292 rfl o7 (x := (h (h (h (h v0 2) 0) s0) 2)) rfl ?_
      exact aw_iret dX9_packet_81 rfl k
    · have k := k.2.2.1 hc
      refine aw_tableIn (x := v1) (tgt := 82) dX9_packet_41 (by omega) (by omega) (by rw [hc]; rfl) (by decide) ?_
      refine aw_aload_n 0 dX9_packet_82 rfl rfl ?_
      obtain ⟨o8, k⟩ := k
      refine aw_getI dX9_packet_83 fl_X9_295 rfl o8 (x := (h (h (h (h v0 2) 0) s0) 3)) rfl ?_
      exact aw_iret dX9_packet_86 rfl k
    · have k := k.2.2.2.1 hc
      refine aw_tableIn (x := v1) (tgt := 87) dX9_packet_41 (by omega) (by omega) (by rw [hc]; rfl) (by decide) ?_
      refine aw_aload_n 0 dX9_packet_87 rfl rfl ?_
      obtain ⟨o9, k⟩ := k
      refine aw_getI dX9_packet_88 fl_X9_207 rfl o9 (x := (h (h (h (h v0 2) 0) s0) 1)) rfl ?_
      exact aw_iret dX9_packet_91 rfl k
    · have k := k.2.2.2.2 hc
      refine aw_tableOut (x := v1) (tgt := 92) dX9_packet_41 hc (by decide) ?_
      refine aw_aload_n 0 dX9_packet_92 rfl rfl ?_
      obtain ⟨o10, k⟩ := k
      refine aw_getI dX9_packet_93 fl_X9_296 rfl o10 (x := (h (h (h (h v0 2) 0) s0) 4)) rfl ?_
      exact aw_iret dX9_packet_96 rfl k
  · have k := k.2 hc
    refine aw_sipush dX9_packet_26 ⟨by decide, by decide⟩ (by decide) ?_
    exact aw_iret dX9_packet_29 rfl k
set_option maxRecDepth 20000 in
theorem sg_X9_put_0 {G : GG} {b : Nat × Nat} {Q : Option VV → Hp → Prop} {v0 v1 v2 v3 : Int} {h : Hp} (k : ((v1 < 0 ∨ 1 < v1) → Q (some (vI (-1001))) h) ∧ ((¬ (v1 < 0 ∨ 1 < v1)) → ((¬ (v2 < 0 ∨ 11 < v2)) → ((¬ (v3 < 0 ∨ 9999 < v3)) → (h v0 (-1) = 10) ∧ (h (h v0 0) (-1) = 32) ∧ (0 ≤ v1) ∧ (v1 < h (h v0 0) (-2)) ∧ (h (h (h v0 0) v1) (-1) = 3) ∧ (h (h (h (h v0 0) v1) 0) (-1) = 20) ∧ (0 ≤ v2) ∧ (v2 < h (h (h (h v0 0) v1) 0) (-2)) ∧ ∀ h1, h1 = wr h (h (h (h v0 0) v1) 0) v2 v3 → Q (some (vI (h (h (h (h v0 0) v1) 0) v2))) h1) ∧ ((v3 < 0 ∨ 9999 < v3) → Q (some (vI (-1002))) h)) ∧ ((v2 < 0 ∨ 11 < v2) → Q (some (vI (-1001))) h))) : AW G mm_X9_put b 0 [(0, vR v0), (1, vI v1), (2, vI v2), (3, vI v3)] [] h Q := by
  refine aw_iload_n 1 dX9_put_0 rfl rfl ?_
  refine aw_callS (M' := mm_X9_isNoHost) [vI v1] [] lk_X9_116 dX9_put_1 rfl (Nat.le_of_ble_eq_true rfl) ⟨by decide, by decide, Nat.zero_le _, Nat.zero_le _⟩ ?_
  refine pu_X9_isNoHost ?_
  refine aw_if_ne (tgt := 14) dX9_put_4 (by decide) (fun hc => ?_) (fun hc => ?_)
  · have k := k.1 (b2i_n.mp hc)
    refine aw_sipush dX9_put_14 ⟨by decide, by decide⟩ (by decide) ?_
    exact aw_iret dX9_put_17 rfl k
  · have k := k.2 (b2i_0.mp hc)
    refine aw_iload_n 2 dX9_put_7 rfl rfl ?_
    refine aw_callS (M' := mm_X9_isNoCell) [vI v2] [] lk_X9_119 dX9_put_8 rfl (Nat.le_of_ble_eq_true rfl) ⟨by decide, by decide, Nat.zero_le _, Nat.zero_le _⟩ ?_
    refine pu_X9_isNoCell ?_
    refine aw_if_eq (tgt := 18) dX9_put_11 (by decide) (fun hc => ?_) (fun hc => ?_)
    · have k := k.1 (b2i_0.mp hc)
      refine aw_iload_n 3 dX9_put_18 rfl rfl ?_
      refine aw_callS (M' := mm_X9_isNoValue) [vI v3] [] lk_X9_122 dX9_put_19 rfl (Nat.le_of_ble_eq_true rfl) ⟨by decide, by decide, Nat.zero_le _, Nat.zero_le _⟩ ?_
      refine pu_X9_isNoValue ?_
      refine aw_if_eq (tgt := 29) dX9_put_22 (by decide) (fun hc => ?_) (fun hc => ?_)
      · have k := k.1 (b2i_0.mp hc)
        refine aw_aload_n 0 dX9_put_29 rfl rfl ?_
        obtain ⟨o1, k⟩ := k
        refine aw_getR dX9_put_30 fl_X9_11 rfl o1 (x := (h v0 0)) rfl ?_
        refine aw_iload_n 1 dX9_put_33 rfl rfl ?_
        obtain ⟨o2, k⟩ := k
        obtain ⟨o3, k⟩ := k
        obtain ⟨o4, k⟩ := k
        refine aw_aald 4 2 aq_2 dX9_put_34 o2 o3 o4 (x := (h (h v0 0) v1)) rfl ?_
        obtain ⟨o5, k⟩ := k
        refine aw_getR dX9_put_35 fl_X9_93 rfl o5 (x := (h (h (h v0 0) v1) 0)) rfl ?_
        refine aw_iload_n 2 dX9_put_38 rfl rfl ?_
        obtain ⟨o6, k⟩ := k
        obtain ⟨o7, k⟩ := k
        obtain ⟨o8, k⟩ := k
        refine aw_iald dX9_put_39 o6 o7 o8 (x := (h (h (h (h v0 0) v1) 0) v2)) rfl ?_
        refine aw_istore dX9_put_40 (by decide) ?_
        refine aw_aload_n 1 dX9_put_42 rfl rfl ?_
        refine aw_getR dX9_put_43 fl_X9_11 rfl o1 (x := (h v0 0)) rfl ?_
        refine aw_iload_n 2 dX9_put_46 rfl rfl ?_
        refine aw_aald 4 2 aq_2 dX9_put_47 o2 o3 o4 (x := (h (h v0 0) v1)) rfl ?_
        refine aw_getR dX9_put_48 fl_X9_93 rfl o5 (x := (h (h (h v0 0) v1) 0)) rfl ?_
        refine aw_iload_n 3 dX9_put_51 rfl rfl ?_
        refine aw_iload_n 4 dX9_put_52 rfl rfl ?_
        refine aw_iast dX9_put_53 o6 o7 o8 ?_
        refine aw_hp (fun h1 e9 => ?_)
        have k := k h1 e9
        refine aw_iload 0 dX9_put_54 rfl ?_
        exact aw_iret dX9_put_56 rfl k
      · have k := k.2 (b2i_n.mp hc)
        refine aw_sipush dX9_put_25 ⟨by decide, by decide⟩ (by decide) ?_
        exact aw_iret dX9_put_28 rfl k
    · have k := k.2 (b2i_n.mp hc)
      refine aw_sipush dX9_put_14 ⟨by decide, by decide⟩ (by decide) ?_
      exact aw_iret dX9_put_17 rfl k
theorem rn_X9_put {G : GG} {Q : Option VV → Hp → Prop} {v0 v1 v2 v3 : Int} {h : Hp} (k : ((v1 < 0 ∨ 1 < v1) → Q (some (vI (-1001))) h) ∧ ((¬ (v1 < 0 ∨ 1 < v1)) → ((¬ (v2 < 0 ∨ 11 < v2)) → ((¬ (v3 < 0 ∨ 9999 < v3)) → (h v0 (-1) = 10) ∧ (h (h v0 0) (-1) = 32) ∧ (0 ≤ v1) ∧ (v1 < h (h v0 0) (-2)) ∧ (h (h (h v0 0) v1) (-1) = 3) ∧ (h (h (h (h v0 0) v1) 0) (-1) = 20) ∧ (0 ≤ v2) ∧ (v2 < h (h (h (h v0 0) v1) 0) (-2)) ∧ ∀ h1, h1 = wr h (h (h (h v0 0) v1) 0) v2 v3 → Q (some (vI (h (h (h (h v0 0) v1) 0) v2))) h1) ∧ ((v3 < 0 ∨ 9999 < v3) → Q (some (vI (-1002))) h)) ∧ ((v2 < 0 ∨ 11 < v2) → Q (some (vI (-1001))) h))) : Runs G mm_X9_put [vR v0, vI v1, vI v2, vI v3] h Q := Runs.of (by decide +kernel) (Nat.le_of_ble_eq_true rfl) (sg_X9_put_0 (b := (0, 0)) k)
set_option maxRecDepth 20000 in
theorem sg_X9_read_0 {G : GG} {b : Nat × Nat} {Q : Option VV → Hp → Prop} {v0 v1 v2 : Int} {h : Hp} (k : ((v1 < 0 ∨ 3 < v1) → Q (some (vI (-1001))) h) ∧ ((¬ (v1 < 0 ∨ 3 < v1)) → ((¬ (v2 < 0 ∨ 11 < v2)) → (h v0 (-1) = 10) ∧ (h (h v0 1) (-1) = 31) ∧ (0 ≤ v1) ∧ (v1 < h (h v0 1) (-2)) ∧ (h (h (h v0 1) v1) (-1) = 2) ∧ Runs G mm_X1_postWork [vR (h (h v0 1) v1), vI 2, vI 0, vI 0, vI v2] h (fun r h' => AW G mm_X9_read b 31 [] (r.toList ++ []) h' Q)) ∧ ((v2 < 0 ∨ 11 < v2) → Q (some (vI (-1001))) h))) : AW G mm_X9_read b 0 [(0, vR v0), (1, vI v1), (2, vI v2)] [] h Q := by
  refine aw_iload_n 1 dX9_read_0 rfl rfl ?_
  refine aw_callS (M' := mm_X9_isNoEnd) [vI v1] [] lk_X9_170 dX9_read_1 rfl (Nat.le_of_ble_eq_true rfl) ⟨by decide, by decide, Nat.zero_le _, Nat.zero_le _⟩ ?_
  refine pu_X9_isNoEnd ?_
  refine aw_if_ne (tgt := 14) dX9_read_4 (by decide) (fun hc => ?_) (fun hc => ?_)
  · have k := k.1 (b2i_n.mp hc)
    refine aw_sipush dX9_read_14 ⟨by decide, by decide⟩ (by decide) ?_
    exact aw_iret dX9_read_17 rfl k
  · have k := k.2 (b2i_0.mp hc)
    refine aw_iload_n 2 dX9_read_7 rfl rfl ?_
    refine aw_callS (M' := mm_X9_isNoCell) [vI v2] [] lk_X9_119 dX9_read_8 rfl (Nat.le_of_ble_eq_true rfl) ⟨by decide, by decide, Nat.zero_le _, Nat.zero_le _⟩ ?_
    refine pu_X9_isNoCell ?_
    refine aw_if_eq (tgt := 18) dX9_read_11 (by decide) (fun hc => ?_) (fun hc => ?_)
    · have k := k.1 (b2i_0.mp hc)
      refine aw_aload_n 0 dX9_read_18 rfl rfl ?_
      obtain ⟨o1, k⟩ := k
      refine aw_getR dX9_read_19 fl_X9_17 rfl o1 (x := (h v0 1)) rfl ?_
      refine aw_iload_n 1 dX9_read_22 rfl rfl ?_
      obtain ⟨o2, k⟩ := k
      obtain ⟨o3, k⟩ := k
      obtain ⟨o4, k⟩ := k
      refine aw_aald 3 1 aq_1 dX9_read_23 o2 o3 o4 (x := (h (h v0 1) v1)) rfl ?_
      refine aw_iconst dX9_read_24 ⟨by decide, by decide⟩ ?_
      refine aw_iconst dX9_read_25 ⟨by decide, by decide⟩ ?_
      refine aw_iconst dX9_read_26 ⟨by decide, by decide⟩ ?_
      refine aw_iload_n 2 dX9_read_27 rfl rfl ?_
      obtain ⟨o5, k⟩ := k
      refine aw_callV (M' := mm_X1_postWork) 1 [vI 2, vI 0, vI 0, vI v2] [] lk_X9_188 ⟨_, rfl, rfl⟩ dX9_read_28 rfl (Nat.le_of_ble_eq_true rfl) ⟨by decide, by decide, Nat.zero_le _, Nat.zero_le _⟩ o5 ?_
      exact k.mono (fun _ _ z => aw_sub [] rfl z)
    · have k := k.2 (b2i_n.mp hc)
      refine aw_sipush dX9_read_14 ⟨by decide, by decide⟩ (by decide) ?_
      exact aw_iret dX9_read_17 rfl k
theorem rn_X9_read {G : GG} {Q : Option VV → Hp → Prop} {v0 v1 v2 : Int} {h : Hp} (k : ((v1 < 0 ∨ 3 < v1) → Q (some (vI (-1001))) h) ∧ ((¬ (v1 < 0 ∨ 3 < v1)) → ((¬ (v2 < 0 ∨ 11 < v2)) → (h v0 (-1) = 10) ∧ (h (h v0 1) (-1) = 31) ∧ (0 ≤ v1) ∧ (v1 < h (h v0 1) (-2)) ∧ (h (h (h v0 1) v1) (-1) = 2) ∧ Runs G mm_X1_postWork [vR (h (h v0 1) v1), vI 2, vI 0, vI 0, vI v2] h (fun r h' => AW G mm_X9_read (0, 0) 31 [] (r.toList ++ []) h' Q)) ∧ ((v2 < 0 ∨ 11 < v2) → Q (some (vI (-1001))) h))) : Runs G mm_X9_read [vR v0, vI v1, vI v2] h Q := Runs.of (by decide +kernel) (Nat.le_of_ble_eq_true rfl) (sg_X9_read_0 (b := (0, 0)) k)
set_option maxRecDepth 20000 in
theorem sg_X9_read_31 {G : GG} {b : Nat × Nat} {Q : Option VV → Hp → Prop} {s0 : Int} {h : Hp} (k : Q (some (vI s0)) h) : AW G mm_X9_read b 31 [] [vI s0] h Q := by
  exact aw_iret dX9_read_31 rfl k
set_option maxRecDepth 20000 in
theorem sg_X9_readyEnds_0 {G : GG} {b : Nat × Nat} {Q : Option VV → Hp → Prop} {v0 : Int} {h : Hp} (k : AW G mm_X9_readyEnds b 4 [(0, vR v0), (1, vI 0), (2, vI 0)] [] h Q) : AW G mm_X9_readyEnds b 0 [(0, vR v0)] [] h Q := by
  refine aw_iconst dX9_readyEnds_0 ⟨by decide, by decide⟩ ?_
  refine aw_istore_n dX9_readyEnds_1 rfl (by decide) ?_
  refine aw_iconst dX9_readyEnds_2 ⟨by decide, by decide⟩ ?_
  refine aw_istore_n dX9_readyEnds_3 rfl (by decide) ?_
  exact aw_sub [2, 1, 0] rfl k
theorem rn_X9_readyEnds {G : GG} {Q : Option VV → Hp → Prop} {v0 : Int} {h : Hp} (k : AW G mm_X9_readyEnds (0, 0) 4 [(0, vR v0), (1, vI 0), (2, vI 0)] [] h Q) : Runs G mm_X9_readyEnds [vR v0] h Q := Runs.of (by decide +kernel) (Nat.le_of_ble_eq_true rfl) (sg_X9_readyEnds_0 (b := (0, 0)) k)
set_option maxRecDepth 20000 in
theorem sg_X9_readyEnds_4 {G : GG} {b : Nat × Nat} {Q : Option VV → Hp → Prop} {v0 v1 v2 : Int} {h : Hp} (k : ((4 ≤ v2) → Q (some (vI v1)) h) ∧ ((¬ (4 ≤ v2)) → (h v0 (-1) = 10) ∧ (h (h v0 1) (-1) = 31) ∧ (0 ≤ v2) ∧ (v2 < h (h v0 1) (-2)) ∧ (h (h (h v0 1) v2) (-1) = 2) ∧ ((¬ (h (h (h v0 1) v2) 6) = 1) → (inI (v2 + 1)) ∧ AW G mm_X9_readyEnds b 4 [(0, vR v0), (1, vI v1), (2, vI (v2 + 1))] [] h Q) ∧ (((h (h (h v0 1) v2) 6) = 1) → (inI (v1 + 1)) ∧ (inI (v2 + 1)) ∧ AW G mm_X9_readyEnds b 4 [(0, vR v0), (1, vI (v1 + 1)), (2, vI (v2 + 1))] [] h Q))) : AW G mm_X9_readyEnds b 4 [(0, vR v0), (1, vI v1), (2, vI v2)] [] h Q := by
  refine aw_iload_n 2 dX9_readyEnds_4 rfl rfl ?_
  refine aw_iconst dX9_readyEnds_5 ⟨by decide, by decide⟩ ?_
  refine aw_icmp_ge (tgt := 31) dX9_readyEnds_6 (by decide) (fun hc => ?_) (fun hc => ?_)
  · have k := k.1 hc
    refine aw_iload_n 1 dX9_readyEnds_31 rfl rfl ?_
    exact aw_iret dX9_readyEnds_32 rfl k
  · have k := k.2 hc
    refine aw_aload_n 0 dX9_readyEnds_9 rfl rfl ?_
    obtain ⟨o1, k⟩ := k
    refine aw_getR dX9_readyEnds_10 fl_X9_17 rfl o1 (x := (h v0 1)) rfl ?_
    refine aw_iload_n 2 dX9_readyEnds_13 rfl rfl ?_
    obtain ⟨o2, k⟩ := k
    obtain ⟨o3, k⟩ := k
    obtain ⟨o4, k⟩ := k
    refine aw_aald 3 1 aq_1 dX9_readyEnds_14 o2 o3 o4 (x := (h (h v0 1) v2)) rfl ?_
    obtain ⟨o5, k⟩ := k
    refine aw_getI dX9_readyEnds_15 fl_X9_158 rfl o5 (x := (h (h (h v0 1) v2) 6)) rfl ?_
    refine aw_iconst dX9_readyEnds_18 ⟨by decide, by decide⟩ ?_
    refine aw_icmp_ne (tgt := 25) dX9_readyEnds_19 (by decide) (fun hc => ?_) (fun hc => ?_)
    · have k := k.1 hc
      obtain ⟨o6, k⟩ := k
      refine aw_iinc 2 dX9_readyEnds_25 rfl o6 (by decide) ?_
      refine aw_goto (tgt := 4) dX9_readyEnds_28 (by decide) ?_
      exact aw_sub [1, 2, 0] rfl k
    · have k := k.2 hc
      obtain ⟨o7, k⟩ := k
      refine aw_iinc 1 dX9_readyEnds_22 rfl o7 (by decide) ?_
      obtain ⟨o8, k⟩ := k
      refine aw_iinc 2 dX9_readyEnds_25 rfl o8 (by decide) ?_
      refine aw_goto (tgt := 4) dX9_readyEnds_28 (by decide) ?_
      exact aw_sub [2, 1, 0] rfl k
set_option maxRecDepth 20000 in
theorem sg_X9_receive_0 {G : GG} {b : Nat × Nat} {Q : Option VV → Hp → Prop} {v0 v1 v2 : Int} {h : Hp} (k : ((v1 < 0 ∨ 3 < v1) → Q (some (vI (-1001))) h) ∧ ((¬ (v1 < 0 ∨ 3 < v1)) → ((¬ (v2 < 0 ∨ 11 < v2)) → (h v0 (-1) = 10) ∧ (h (h v0 1) (-1) = 31) ∧ (0 ≤ v1) ∧ (v1 < h (h v0 1) (-2)) ∧ (h (h (h v0 1) v1) (-1) = 2) ∧ Runs G mm_X1_postReceive [vR (h (h v0 1) v1), vI v2] h (fun r h' => AW G mm_X9_receive b 28 [] (r.toList ++ []) h' Q)) ∧ ((v2 < 0 ∨ 11 < v2) → Q (some (vI (-1001))) h))) : AW G mm_X9_receive b 0 [(0, vR v0), (1, vI v1), (2, vI v2)] [] h Q := by
  refine aw_iload_n 1 dX9_receive_0 rfl rfl ?_
  refine aw_callS (M' := mm_X9_isNoEnd) [vI v1] [] lk_X9_170 dX9_receive_1 rfl (Nat.le_of_ble_eq_true rfl) ⟨by decide, by decide, Nat.zero_le _, Nat.zero_le _⟩ ?_
  refine pu_X9_isNoEnd ?_
  refine aw_if_ne (tgt := 14) dX9_receive_4 (by decide) (fun hc => ?_) (fun hc => ?_)
  · have k := k.1 (b2i_n.mp hc)
    refine aw_sipush dX9_receive_14 ⟨by decide, by decide⟩ (by decide) ?_
    exact aw_iret dX9_receive_17 rfl k
  · have k := k.2 (b2i_0.mp hc)
    refine aw_iload_n 2 dX9_receive_7 rfl rfl ?_
    refine aw_callS (M' := mm_X9_isNoCell) [vI v2] [] lk_X9_119 dX9_receive_8 rfl (Nat.le_of_ble_eq_true rfl) ⟨by decide, by decide, Nat.zero_le _, Nat.zero_le _⟩ ?_
    refine pu_X9_isNoCell ?_
    refine aw_if_eq (tgt := 18) dX9_receive_11 (by decide) (fun hc => ?_) (fun hc => ?_)
    · have k := k.1 (b2i_0.mp hc)
      refine aw_aload_n 0 dX9_receive_18 rfl rfl ?_
      obtain ⟨o1, k⟩ := k
      refine aw_getR dX9_receive_19 fl_X9_17 rfl o1 (x := (h v0 1)) rfl ?_
      refine aw_iload_n 1 dX9_receive_22 rfl rfl ?_
      obtain ⟨o2, k⟩ := k
      obtain ⟨o3, k⟩ := k
      obtain ⟨o4, k⟩ := k
      refine aw_aald 3 1 aq_1 dX9_receive_23 o2 o3 o4 (x := (h (h v0 1) v1)) rfl ?_
      refine aw_iload_n 2 dX9_receive_24 rfl rfl ?_
      obtain ⟨o5, k⟩ := k
      refine aw_callV (M' := mm_X1_postReceive) 1 [vI v2] [] lk_X9_192 ⟨_, rfl, rfl⟩ dX9_receive_25 rfl (Nat.le_of_ble_eq_true rfl) ⟨by decide, by decide, Nat.zero_le _, Nat.zero_le _⟩ o5 ?_
      exact k.mono (fun _ _ z => aw_sub [] rfl z)
    · have k := k.2 (b2i_n.mp hc)
      refine aw_sipush dX9_receive_14 ⟨by decide, by decide⟩ (by decide) ?_
      exact aw_iret dX9_receive_17 rfl k
theorem rn_X9_receive {G : GG} {Q : Option VV → Hp → Prop} {v0 v1 v2 : Int} {h : Hp} (k : ((v1 < 0 ∨ 3 < v1) → Q (some (vI (-1001))) h) ∧ ((¬ (v1 < 0 ∨ 3 < v1)) → ((¬ (v2 < 0 ∨ 11 < v2)) → (h v0 (-1) = 10) ∧ (h (h v0 1) (-1) = 31) ∧ (0 ≤ v1) ∧ (v1 < h (h v0 1) (-2)) ∧ (h (h (h v0 1) v1) (-1) = 2) ∧ Runs G mm_X1_postReceive [vR (h (h v0 1) v1), vI v2] h (fun r h' => AW G mm_X9_receive (0, 0) 28 [] (r.toList ++ []) h' Q)) ∧ ((v2 < 0 ∨ 11 < v2) → Q (some (vI (-1001))) h))) : Runs G mm_X9_receive [vR v0, vI v1, vI v2] h Q := Runs.of (by decide +kernel) (Nat.le_of_ble_eq_true rfl) (sg_X9_receive_0 (b := (0, 0)) k)
set_option maxRecDepth 20000 in
theorem sg_X9_receive_28 {G : GG} {b : Nat × Nat} {Q : Option VV → Hp → Prop} {s0 : Int} {h : Hp} (k : Q (some (vI s0)) h) : AW G mm_X9_receive b 28 [] [vI s0] h Q := by
  exact aw_iret dX9_receive_28 rfl k
set_option maxRecDepth 20000 in
theorem sg_X9_resetAll_0 {G : GG} {b : Nat × Nat} {Q : Option VV → Hp → Prop} {v0 : Int} {h : Hp} (k : AW G mm_X9_resetAll b 2 [(0, vR v0), (1, vI 0)] [] h Q) : AW G mm_X9_resetAll b 0 [(0, vR v0)] [] h Q := by
  refine aw_iconst dX9_resetAll_0 ⟨by decide, by decide⟩ ?_
  refine aw_istore_n dX9_resetAll_1 rfl (by decide) ?_
  exact aw_sub [1, 0] rfl k
theorem rn_X9_resetAll {G : GG} {Q : Option VV → Hp → Prop} {v0 : Int} {h : Hp} (k : AW G mm_X9_resetAll (0, 0) 2 [(0, vR v0), (1, vI 0)] [] h Q) : Runs G mm_X9_resetAll [vR v0] h Q := Runs.of (by decide +kernel) (Nat.le_of_ble_eq_true rfl) (sg_X9_resetAll_0 (b := (0, 0)) k)
set_option maxRecDepth 20000 in
theorem sg_X9_resetAll_2 {G : GG} {b : Nat × Nat} {Q : Option VV → Hp → Prop} {v0 v1 : Int} {h : Hp} (k : ((2 ≤ v1) → AW G mm_X9_resetAll b 24 [(0, vR v0), (1, vI 0)] [] h Q) ∧ ((¬ (2 ≤ v1)) → (h v0 (-1) = 10) ∧ (h (h v0 0) (-1) = 32) ∧ (0 ≤ v1) ∧ (v1 < h (h v0 0) (-2)) ∧ (h (h (h v0 0) v1) (-1) = 3) ∧ Runs G mm_X2_reset [vR (h (h v0 0) v1)] h (fun r h' => AW G mm_X9_resetAll b 16 [(0, vR v0), (1, vI v1)] (r.toList ++ []) h' Q))) : AW G mm_X9_resetAll b 2 [(0, vR v0), (1, vI v1)] [] h Q := by
  refine aw_iload_n 1 dX9_resetAll_2 rfl rfl ?_
  refine aw_iconst dX9_resetAll_3 ⟨by decide, by decide⟩ ?_
  refine aw_icmp_ge (tgt := 22) dX9_resetAll_4 (by decide) (fun hc => ?_) (fun hc => ?_)
  · have k := k.1 hc
    refine aw_iconst dX9_resetAll_22 ⟨by decide, by decide⟩ ?_
    refine aw_istore_n dX9_resetAll_23 rfl (by decide) ?_
    exact aw_sub [1, 0] rfl k
  · have k := k.2 hc
    refine aw_aload_n 0 dX9_resetAll_7 rfl rfl ?_
    obtain ⟨o1, k⟩ := k
    refine aw_getR dX9_resetAll_8 fl_X9_11 rfl o1 (x := (h v0 0)) rfl ?_
    refine aw_iload_n 1 dX9_resetAll_11 rfl rfl ?_
    obtain ⟨o2, k⟩ := k
    obtain ⟨o3, k⟩ := k
    obtain ⟨o4, k⟩ := k
    refine aw_aald 4 2 aq_2 dX9_resetAll_12 o2 o3 o4 (x := (h (h v0 0) v1)) rfl ?_
    obtain ⟨o5, k⟩ := k
    refine aw_callV (M' := mm_X2_reset) 2 [] [] lk_X9_111 ⟨_, rfl, rfl⟩ dX9_resetAll_13 rfl (Nat.le_of_ble_eq_true rfl) ⟨by decide, by decide, Nat.zero_le _, Nat.zero_le _⟩ o5 ?_
    exact k
set_option maxRecDepth 20000 in
theorem sg_X9_resetAll_24 {G : GG} {b : Nat × Nat} {Q : Option VV → Hp → Prop} {v0 v1 : Int} {h : Hp} (k : ((4 ≤ v1) → (h v0 (-1) = 10) ∧ (h (h v0 2) (-1) = 8) ∧ Runs G mm_X7_reset [vR (h v0 2)] h (fun r h' => AW G mm_X9_resetAll b 51 [(0, vR v0)] (r.toList ++ []) h' Q)) ∧ ((¬ (4 ≤ v1)) → (h v0 (-1) = 10) ∧ (h (h v0 1) (-1) = 31) ∧ (0 ≤ v1) ∧ (v1 < h (h v0 1) (-2)) ∧ (h (h (h v0 1) v1) (-1) = 2) ∧ Runs G mm_X1_reset [vR (h (h v0 1) v1)] h (fun r h' => AW G mm_X9_resetAll b 38 [(0, vR v0), (1, vI v1)] (r.toList ++ []) h' Q))) : AW G mm_X9_resetAll b 24 [(0, vR v0), (1, vI v1)] [] h Q := by
  refine aw_iload_n 1 dX9_resetAll_24 rfl rfl ?_
  refine aw_iconst dX9_resetAll_25 ⟨by decide, by decide⟩ ?_
  refine aw_icmp_ge (tgt := 44) dX9_resetAll_26 (by decide) (fun hc => ?_) (fun hc => ?_)
  · have k := k.1 hc
    refine aw_aload_n 0 dX9_resetAll_44 rfl rfl ?_
    obtain ⟨o1, k⟩ := k
    refine aw_getR dX9_resetAll_45 fl_X9_24 rfl o1 (x := (h v0 2)) rfl ?_
    obtain ⟨o2, k⟩ := k
    refine aw_callV (M' := mm_X7_reset) 7 [] [] lk_X9_115 ⟨_, rfl, rfl⟩ dX9_resetAll_48 rfl (Nat.le_of_ble_eq_true rfl) ⟨by decide, by decide, Nat.zero_le _, Nat.zero_le _⟩ o2 ?_
    exact k.mono (fun _ _ z => aw_sub [0] rfl z)
  · have k := k.2 hc
    refine aw_aload_n 0 dX9_resetAll_29 rfl rfl ?_
    obtain ⟨o3, k⟩ := k
    refine aw_getR dX9_resetAll_30 fl_X9_17 rfl o3 (x := (h v0 1)) rfl ?_
    refine aw_iload_n 1 dX9_resetAll_33 rfl rfl ?_
    obtain ⟨o4, k⟩ := k
    obtain ⟨o5, k⟩ := k
    obtain ⟨o6, k⟩ := k
    refine aw_aald 3 1 aq_1 dX9_resetAll_34 o4 o5 o6 (x := (h (h v0 1) v1)) rfl ?_
    obtain ⟨o7, k⟩ := k
    refine aw_callV (M' := mm_X1_reset) 1 [] [] lk_X9_114 ⟨_, rfl, rfl⟩ dX9_resetAll_35 rfl (Nat.le_of_ble_eq_true rfl) ⟨by decide, by decide, Nat.zero_le _, Nat.zero_le _⟩ o7 ?_
    exact k
set_option maxRecDepth 20000 in
theorem sg_X9_resetAll_16 {G : GG} {b : Nat × Nat} {Q : Option VV → Hp → Prop} {v0 v1 : Int} {h : Hp} (k : (inI (v1 + 1)) ∧ AW G mm_X9_resetAll b 2 [(0, vR v0), (1, vI (v1 + 1))] [] h Q) : AW G mm_X9_resetAll b 16 [(0, vR v0), (1, vI v1)] [] h Q := by
  obtain ⟨o1, k⟩ := k
  refine aw_iinc 1 dX9_resetAll_16 rfl o1 (by decide) ?_
  refine aw_goto (tgt := 2) dX9_resetAll_19 (by decide) ?_
  exact aw_sub [1, 0] rfl k
set_option maxRecDepth 20000 in
theorem sg_X9_resetAll_51 {G : GG} {b : Nat × Nat} {Q : Option VV → Hp → Prop} {v0 : Int} {h : Hp} (k : (h v0 (-1) = 10) ∧ ∀ h1, h1 = wr h v0 4 0 → Q none h1) : AW G mm_X9_resetAll b 51 [(0, vR v0)] [] h Q := by
  refine aw_aload_n 0 dX9_resetAll_51 rfl rfl ?_
  refine aw_null dX9_resetAll_52 ?_
  obtain ⟨o1, k⟩ := k
  refine aw_putR dX9_resetAll_53 fl_X9_35 (fun q hq hf => by cases hq; cases hf) rfl rfl o1 ?_
  refine aw_hp (fun h1 e2 => ?_)
  have k := k h1 e2
  exact aw_vret dX9_resetAll_56 rfl k
set_option maxRecDepth 20000 in
theorem sg_X9_resetAll_38 {G : GG} {b : Nat × Nat} {Q : Option VV → Hp → Prop} {v0 v1 : Int} {h : Hp} (k : (inI (v1 + 1)) ∧ AW G mm_X9_resetAll b 24 [(0, vR v0), (1, vI (v1 + 1))] [] h Q) : AW G mm_X9_resetAll b 38 [(0, vR v0), (1, vI v1)] [] h Q := by
  obtain ⟨o1, k⟩ := k
  refine aw_iinc 1 dX9_resetAll_38 rfl o1 (by decide) ?_
  refine aw_goto (tgt := 24) dX9_resetAll_41 (by decide) ?_
  exact aw_sub [1, 0] rfl k
set_option maxRecDepth 20000 in
theorem sg_X9_send_0 {G : GG} {b : Nat × Nat} {Q : Option VV → Hp → Prop} {v0 v1 v2 : Int} {h : Hp} (k : ((¬ (v1 < 0 ∨ 3 < v1)) → ((¬ (v2 < 0 ∨ 9999 < v2)) → (h v0 (-1) = 10) ∧ (h (h v0 1) (-1) = 31) ∧ (0 ≤ v1) ∧ (v1 < h (h v0 1) (-2)) ∧ (h (h (h v0 1) v1) (-1) = 2) ∧ Runs G mm_X1_postWork [vR (h (h v0 1) v1), vI 0, vI v2, vI 0, vI 0] h (fun r h' => AW G mm_X9_send b 37 [] (r.toList ++ []) h' Q)) ∧ ((v2 < 0 ∨ 9999 < v2) → Q (some (vI (-1002))) h)) ∧ ((v1 < 0 ∨ 3 < v1) → Q (some (vI (-1001))) h)) : AW G mm_X9_send b 0 [(0, vR v0), (1, vI v1), (2, vI v2)] [] h Q := by
  refine aw_iload_n 1 dX9_send_0 rfl rfl ?_
  refine aw_callS (M' := mm_X9_isNoEnd) [vI v1] [] lk_X9_170 dX9_send_1 rfl (Nat.le_of_ble_eq_true rfl) ⟨by decide, by decide, Nat.zero_le _, Nat.zero_le _⟩ ?_
  refine pu_X9_isNoEnd ?_
  refine aw_if_eq (tgt := 11) dX9_send_4 (by decide) (fun hc => ?_) (fun hc => ?_)
  · have k := k.1 (b2i_0.mp hc)
    refine aw_iload_n 2 dX9_send_11 rfl rfl ?_
    refine aw_callS (M' := mm_X9_isNoValue) [vI v2] [] lk_X9_122 dX9_send_12 rfl (Nat.le_of_ble_eq_true rfl) ⟨by decide, by decide, Nat.zero_le _, Nat.zero_le _⟩ ?_
    refine pu_X9_isNoValue ?_
    refine aw_if_eq (tgt := 24) dX9_send_15 (by decide) (fun hc => ?_) (fun hc => ?_)
    · have k := k.1 (b2i_0.mp hc)
      refine aw_aload_n 0 dX9_send_24 rfl rfl ?_
      obtain ⟨o1, k⟩ := k
      refine aw_getR dX9_send_25 fl_X9_17 rfl o1 (x := (h v0 1)) rfl ?_
      refine aw_iload_n 1 dX9_send_28 rfl rfl ?_
      obtain ⟨o2, k⟩ := k
      obtain ⟨o3, k⟩ := k
      obtain ⟨o4, k⟩ := k
      refine aw_aald 3 1 aq_1 dX9_send_29 o2 o3 o4 (x := (h (h v0 1) v1)) rfl ?_
      refine aw_iconst dX9_send_30 ⟨by decide, by decide⟩ ?_
      refine aw_iload_n 2 dX9_send_31 rfl rfl ?_
      refine aw_iconst dX9_send_32 ⟨by decide, by decide⟩ ?_
      refine aw_iconst dX9_send_33 ⟨by decide, by decide⟩ ?_
      obtain ⟨o5, k⟩ := k
      refine aw_callV (M' := mm_X1_postWork) 1 [vI 0, vI v2, vI 0, vI 0] [] lk_X9_188 ⟨_, rfl, rfl⟩ dX9_send_34 rfl (Nat.le_of_ble_eq_true rfl) ⟨by decide, by decide, Nat.zero_le _, Nat.zero_le _⟩ o5 ?_
      exact k.mono (fun _ _ z => aw_sub [] rfl z)
    · have k := k.2 (b2i_n.mp hc)
      refine aw_sipush dX9_send_18 ⟨by decide, by decide⟩ (by decide) ?_
      refine aw_goto (tgt := 37) dX9_send_21 (by decide) ?_
      exact aw_iret dX9_send_37 rfl k
  · have k := k.2 (b2i_n.mp hc)
    refine aw_sipush dX9_send_7 ⟨by decide, by decide⟩ (by decide) ?_
    exact aw_iret dX9_send_10 rfl k
theorem rn_X9_send {G : GG} {Q : Option VV → Hp → Prop} {v0 v1 v2 : Int} {h : Hp} (k : ((¬ (v1 < 0 ∨ 3 < v1)) → ((¬ (v2 < 0 ∨ 9999 < v2)) → (h v0 (-1) = 10) ∧ (h (h v0 1) (-1) = 31) ∧ (0 ≤ v1) ∧ (v1 < h (h v0 1) (-2)) ∧ (h (h (h v0 1) v1) (-1) = 2) ∧ Runs G mm_X1_postWork [vR (h (h v0 1) v1), vI 0, vI v2, vI 0, vI 0] h (fun r h' => AW G mm_X9_send (0, 0) 37 [] (r.toList ++ []) h' Q)) ∧ ((v2 < 0 ∨ 9999 < v2) → Q (some (vI (-1002))) h)) ∧ ((v1 < 0 ∨ 3 < v1) → Q (some (vI (-1001))) h)) : Runs G mm_X9_send [vR v0, vI v1, vI v2] h Q := Runs.of (by decide +kernel) (Nat.le_of_ble_eq_true rfl) (sg_X9_send_0 (b := (0, 0)) k)
set_option maxRecDepth 20000 in
theorem sg_X9_send_37 {G : GG} {b : Nat × Nat} {Q : Option VV → Hp → Prop} {s0 : Int} {h : Hp} (k : Q (some (vI s0)) h) : AW G mm_X9_send b 37 [] [vI s0] h Q := by
  exact aw_iret dX9_send_37 rfl k
set_option maxRecDepth 20000 in
theorem sg_X9_step_0 {G : GG} {b : Nat × Nat} {Q : Option VV → Hp → Prop} {v0 v1 : Int} {h : Hp} (k : ((¬ (v1 < 0 ∨ 2 < v1)) → (h v0 (-1) = 10) ∧ (h (h v0 2) (-1) = 8) ∧ Runs G mm_X7_pullFirst [vR (h v0 2)] h (fun r h' => AW G mm_X9_step b 20 [(0, vR v0), (1, vI v1)] (r.toList ++ []) h' Q)) ∧ ((v1 < 0 ∨ 2 < v1) → Q (some (vI (-1002))) h)) : AW G mm_X9_step b 0 [(0, vR v0), (1, vI v1)] [] h Q := by
  refine aw_iload_n 1 dX9_step_0 rfl rfl ?_
  refine aw_iconst dX9_step_1 ⟨by decide, by decide⟩ ?_
  refine aw_iconst dX9_step_2 ⟨by decide, by decide⟩ ?_
  refine aw_callS (M' := mm_X9_isOutside) [vI v1, vI 0, vI 2] [] lk_X9_47 dX9_step_3 rfl (Nat.le_of_ble_eq_true rfl) ⟨by decide, by decide, Nat.zero_le _, Nat.zero_le _⟩ ?_
  refine pu_X9_isOutside ?_
  refine aw_if_eq (tgt := 13) dX9_step_6 (by decide) (fun hc => ?_) (fun hc => ?_)
  · have k := k.1 (b2i_0.mp hc)
    refine aw_aload_n 0 dX9_step_13 rfl rfl ?_
    obtain ⟨o1, k⟩ := k
    refine aw_getR dX9_step_14 fl_X9_24 rfl o1 (x := (h v0 2)) rfl ?_
    obtain ⟨o2, k⟩ := k
    refine aw_callV (M' := mm_X7_pullFirst) 7 [] [] lk_X9_195 ⟨_, rfl, rfl⟩ dX9_step_17 rfl (Nat.le_of_ble_eq_true rfl) ⟨by decide, by decide, Nat.zero_le _, Nat.zero_le _⟩ o2 ?_
    exact k
  · have k := k.2 (b2i_n.mp hc)
    refine aw_sipush dX9_step_9 ⟨by decide, by decide⟩ (by decide) ?_
    exact aw_iret dX9_step_12 rfl k
theorem rn_X9_step {G : GG} {Q : Option VV → Hp → Prop} {v0 v1 : Int} {h : Hp} (k : ((¬ (v1 < 0 ∨ 2 < v1)) → (h v0 (-1) = 10) ∧ (h (h v0 2) (-1) = 8) ∧ Runs G mm_X7_pullFirst [vR (h v0 2)] h (fun r h' => AW G mm_X9_step (12, 72) 20 [(0, vR v0), (1, vI v1)] (r.toList ++ []) h' Q)) ∧ ((v1 < 0 ∨ 2 < v1) → Q (some (vI (-1002))) h)) : Runs G mm_X9_step [vR v0, vI v1] h Q := Runs.of (by decide +kernel) (Nat.le_of_ble_eq_true rfl) (sg_X9_step_0 (b := (12, 72)) k)
set_option maxRecDepth 20000 in
theorem sg_X9_step_20 {G : GG} {b : Nat × Nat} {Q : Option VV → Hp → Prop} {v0 v1 s0 : Int} {h : Hp} (k : ((¬ s0 = 0) → ((¬ v1 = 1) → (h v0 (-1) = 10) ∧ (h s0 (-1) = 6) ∧ (h (h v0 2) (-1) = 8) ∧ Runs G mm_X7_passTimeTo [vR (h v0 2), vI (h s0 1)] h (fun r h' => AW G mm_X9_step b 63 [(0, vR v0), (1, vI v1), (2, vR s0)] (r.toList ++ []) h' Q)) ∧ ((v1 = 1) → (h v0 (-1) = 10) ∧ (h (h v0 2) (-1) = 8) ∧ (inI ((h (h v0 2) 4) + 1)) ∧ ∀ h1, h1 = wr h (h v0 2) 4 ((h (h v0 2) 4) + 1) → (h s0 (-1) = 6) ∧ Q (some (vI (h s0 0))) h1)) ∧ ((s0 = 0) → Q (some (vI (-1003))) h)) : AW G mm_X9_step b 20 [(0, vR v0), (1, vI v1)] [vR s0] h Q := by
  refine aw_astore_n dX9_step_20 rfl (by decide) ?_
  refine aw_aload_n 0 dX9_step_21 rfl rfl ?_
  refine aw_ifnonnull (tgt := 29) dX9_step_22 (by decide) (fun hc => ?_) (fun hc => ?_)
  · have k := k.1 hc
    refine aw_iload_n 2 dX9_step_29 rfl rfl ?_
    refine aw_iconst dX9_step_30 ⟨by decide, by decide⟩ ?_
    refine aw_icmp_ne (tgt := 52) dX9_step_31 (by decide) (fun hc => ?_) (fun hc => ?_)
    · have k := k.1 hc
      refine aw_aload_n 1 dX9_step_52 rfl rfl ?_
      obtain ⟨o1, k⟩ := k
      refine aw_getR dX9_step_53 fl_X9_24 rfl o1 (x := (h v0 2)) rfl ?_
      refine aw_aload_n 0 dX9_step_56 rfl rfl ?_
      obtain ⟨o2, k⟩ := k
      refine aw_getI dX9_step_57 fl_X9_207 rfl o2 (x := (h s0 1)) rfl ?_
      obtain ⟨o3, k⟩ := k
      refine aw_callV (M' := mm_X7_passTimeTo) 7 [vI (h s0 1)] [] lk_X9_210 ⟨_, rfl, rfl⟩ dX9_step_60 rfl (Nat.le_of_ble_eq_true rfl) ⟨by decide, by decide, Nat.zero_le _, Nat.zero_le _⟩ o3 ?_
      exact k.mono (fun _ _ z => aw_sub [1, 2, 0] rfl z)
    · have k := k.2 hc
      refine aw_aload_n 1 dX9_step_34 rfl rfl ?_
      obtain ⟨o4, k⟩ := k
      refine aw_getR dX9_step_35 fl_X9_24 rfl o4 (x := (h v0 2)) rfl ?_
      refine aw_dup dX9_step_38 rfl ?_
      obtain ⟨o5, k⟩ := k
      refine aw_getI dX9_step_39 fl_X9_199 rfl o5 (x := (h (h v0 2) 4)) rfl ?_
      refine aw_iconst dX9_step_42 ⟨by decide, by decide⟩ ?_
      obtain ⟨o6, k⟩ := k
      refine aw_iadd dX9_step_43 o6 ?_
      refine aw_putI dX9_step_44 fl_X9_199 (fun q hq hf => by cases hq; cases hf) rfl rfl o5 ?_
      refine aw_hp (fun h1 e7 => ?_)
      have k := k h1 e7
      refine aw_aload_n 0 dX9_step_47 rfl rfl ?_
      obtain ⟨o8, k⟩ := k
      have q9 := sh_w e7 (by decide) o8
      refine aw_getI dX9_step_48 fl_X9_202 rfl q9 (x := (h s0 0)) (rd_a e7 s0 0 (ne_sh o5 o8 (by decide))) ?_
      exact aw_iret dX9_step_51 rfl k
  · have k := k.2 hc
    refine aw_sipush dX9_step_25 ⟨by decide, by decide⟩ (by decide) ?_
    exact aw_iret dX9_step_28 rfl k
set_option maxRecDepth 20000 in
theorem sg_X9_step_63 {G : GG} {b : Nat × Nat} {Q : Option VV → Hp → Prop} {v0 v1 v2 : Int} {h : Hp} (k : ((¬ v1 = 2) → (h v0 (-1) = 10) ∧ (h v2 (-1) = 6) ∧ (h (h v0 1) (-1) = 31) ∧ (0 ≤ (h v2 0)) ∧ ((h v2 0) < h (h v0 1) (-2)) ∧ (12 ≤ b.1) ∧ (72 ≤ b.2) ∧ (h (h (h v0 1) (h v2 0)) (-1) = 2) ∧ Runs G mm_X1_meet [vR (h (h v0 1) (h v2 0)), vR v2] h (fun r h' => AW G mm_X9_step (b.1 - 12, b.2 - 72) 89 [(2, vR v2)] (r.toList ++ []) h' Q)) ∧ ((v1 = 2) → (h v0 (-1) = 10) ∧ (h (h v0 2) (-1) = 8) ∧ Runs G mm_X7_repeat [vR (h v0 2), vR v2] h (fun r h' => AW G mm_X9_step b 76 [(0, vR v0), (2, vR v2)] (r.toList ++ []) h' Q))) : AW G mm_X9_step b 63 [(0, vR v0), (1, vI v1), (2, vR v2)] [] h Q := by
  refine aw_iload_n 1 dX9_step_63 rfl rfl ?_
  refine aw_iconst dX9_step_64 ⟨by decide, by decide⟩ ?_
  refine aw_icmp_ne (tgt := 76) dX9_step_65 (by decide) (fun hc => ?_) (fun hc => ?_)
  · have k := k.1 hc
    refine aw_aload_n 0 dX9_step_76 rfl rfl ?_
    obtain ⟨o1, k⟩ := k
    refine aw_getR dX9_step_77 fl_X9_17 rfl o1 (x := (h v0 1)) rfl ?_
    refine aw_aload_n 2 dX9_step_80 rfl rfl ?_
    obtain ⟨o2, k⟩ := k
    refine aw_getI dX9_step_81 fl_X9_202 rfl o2 (x := (h v2 0)) rfl ?_
    obtain ⟨o3, k⟩ := k
    obtain ⟨o4, k⟩ := k
    obtain ⟨o5, k⟩ := k
    refine aw_aald 3 1 aq_1 dX9_step_84 o3 o4 o5 (x := (h (h v0 1) (h v2 0))) rfl ?_
    refine aw_aload_n 2 dX9_step_85 rfl rfl ?_
    obtain ⟨o6, k⟩ := k
    obtain ⟨o7, k⟩ := k
    obtain ⟨o8, k⟩ := k
    refine aw_callV (M' := mm_X1_meet) 1 [vR v2] [] lk_X9_217 ⟨_, rfl, rfl⟩ dX9_step_86 rfl (Nat.le_of_ble_eq_true rfl) ⟨by decide, by decide, o6, o7⟩ o8 ?_
    exact k.mono (fun _ _ z => aw_sub [2] rfl z)
  · have k := k.2 hc
    refine aw_aload_n 0 dX9_step_68 rfl rfl ?_
    obtain ⟨o9, k⟩ := k
    refine aw_getR dX9_step_69 fl_X9_24 rfl o9 (x := (h v0 2)) rfl ?_
    refine aw_aload_n 2 dX9_step_72 rfl rfl ?_
    obtain ⟨o10, k⟩ := k
    refine aw_callV (M' := mm_X7_repeat) 7 [vR v2] [] lk_X9_213 ⟨_, rfl, rfl⟩ dX9_step_73 rfl (Nat.le_of_ble_eq_true rfl) ⟨by decide, by decide, Nat.zero_le _, Nat.zero_le _⟩ o10 ?_
    exact k.mono (fun _ _ z => aw_sub [0, 2] rfl z)
set_option maxRecDepth 20000 in
theorem sg_X9_step_89 {G : GG} {b : Nat × Nat} {Q : Option VV → Hp → Prop} {v2 : Int} {h : Hp} (k : (h v2 (-1) = 6) ∧ Q (some (vI (h v2 0))) h) : AW G mm_X9_step b 89 [(2, vR v2)] [] h Q := by
  refine aw_aload_n 0 dX9_step_89 rfl rfl ?_
  obtain ⟨o1, k⟩ := k
  refine aw_getI dX9_step_90 fl_X9_202 rfl o1 (x := (h v2 0)) rfl ?_
  exact aw_iret dX9_step_93 rfl k
set_option maxRecDepth 20000 in
theorem sg_X9_step_76 {G : GG} {b : Nat × Nat} {Q : Option VV → Hp → Prop} {v0 v2 : Int} {h : Hp} (k : (h v0 (-1) = 10) ∧ (h v2 (-1) = 6) ∧ (h (h v0 1) (-1) = 31) ∧ (0 ≤ (h v2 0)) ∧ ((h v2 0) < h (h v0 1) (-2)) ∧ (12 ≤ b.1) ∧ (72 ≤ b.2) ∧ (h (h (h v0 1) (h v2 0)) (-1) = 2) ∧ Runs G mm_X1_meet [vR (h (h v0 1) (h v2 0)), vR v2] h (fun r h' => AW G mm_X9_step (b.1 - 12, b.2 - 72) 89 [(2, vR v2)] (r.toList ++ []) h' Q)) : AW G mm_X9_step b 76 [(0, vR v0), (2, vR v2)] [] h Q := by
  refine aw_aload_n 0 dX9_step_76 rfl rfl ?_
  obtain ⟨o1, k⟩ := k
  refine aw_getR dX9_step_77 fl_X9_17 rfl o1 (x := (h v0 1)) rfl ?_
  refine aw_aload_n 1 dX9_step_80 rfl rfl ?_
  obtain ⟨o2, k⟩ := k
  refine aw_getI dX9_step_81 fl_X9_202 rfl o2 (x := (h v2 0)) rfl ?_
  obtain ⟨o3, k⟩ := k
  obtain ⟨o4, k⟩ := k
  obtain ⟨o5, k⟩ := k
  refine aw_aald 3 1 aq_1 dX9_step_84 o3 o4 o5 (x := (h (h v0 1) (h v2 0))) rfl ?_
  refine aw_aload_n 1 dX9_step_85 rfl rfl ?_
  obtain ⟨o6, k⟩ := k
  obtain ⟨o7, k⟩ := k
  obtain ⟨o8, k⟩ := k
  refine aw_callV (M' := mm_X1_meet) 1 [vR v2] [] lk_X9_217 ⟨_, rfl, rfl⟩ dX9_step_86 rfl (Nat.le_of_ble_eq_true rfl) ⟨by decide, by decide, o6, o7⟩ o8 ?_
  exact k.mono (fun _ _ z => aw_sub [1] rfl z)
set_option maxRecDepth 20000 in
theorem sg_X9_store_0 {G : GG} {b : Nat × Nat} {Q : Option VV → Hp → Prop} {v0 v1 v2 : Int} {h : Hp} (k : ((¬ (v1 < 0 ∨ 3 < v1)) → ((¬ (v2 < 0 ∨ 9999 < v2)) → (h v0 (-1) = 10) ∧ (h (h v0 1) (-1) = 31) ∧ (0 ≤ v1) ∧ (v1 < h (h v0 1) (-2)) ∧ (h (h (h v0 1) v1) (-1) = 2) ∧ Runs G mm_X1_postWork [vR (h (h v0 1) v1), vI 1, vI v2, vI 0, vI 0] h (fun r h' => AW G mm_X9_store b 37 [] (r.toList ++ []) h' Q)) ∧ ((v2 < 0 ∨ 9999 < v2) → Q (some (vI (-1002))) h)) ∧ ((v1 < 0 ∨ 3 < v1) → Q (some (vI (-1001))) h)) : AW G mm_X9_store b 0 [(0, vR v0), (1, vI v1), (2, vI v2)] [] h Q := by
  refine aw_iload_n 1 dX9_store_0 rfl rfl ?_
  refine aw_callS (M' := mm_X9_isNoEnd) [vI v1] [] lk_X9_170 dX9_store_1 rfl (Nat.le_of_ble_eq_true rfl) ⟨by decide, by decide, Nat.zero_le _, Nat.zero_le _⟩ ?_
  refine pu_X9_isNoEnd ?_
  refine aw_if_eq (tgt := 11) dX9_store_4 (by decide) (fun hc => ?_) (fun hc => ?_)
  · have k := k.1 (b2i_0.mp hc)
    refine aw_iload_n 2 dX9_store_11 rfl rfl ?_
    refine aw_callS (M' := mm_X9_isNoValue) [vI v2] [] lk_X9_122 dX9_store_12 rfl (Nat.le_of_ble_eq_true rfl) ⟨by decide, by decide, Nat.zero_le _, Nat.zero_le _⟩ ?_
    refine pu_X9_isNoValue ?_
    refine aw_if_eq (tgt := 24) dX9_store_15 (by decide) (fun hc => ?_) (fun hc => ?_)
    · have k := k.1 (b2i_0.mp hc)
      refine aw_aload_n 0 dX9_store_24 rfl rfl ?_
      obtain ⟨o1, k⟩ := k
      refine aw_getR dX9_store_25 fl_X9_17 rfl o1 (x := (h v0 1)) rfl ?_
      refine aw_iload_n 1 dX9_store_28 rfl rfl ?_
      obtain ⟨o2, k⟩ := k
      obtain ⟨o3, k⟩ := k
      obtain ⟨o4, k⟩ := k
      refine aw_aald 3 1 aq_1 dX9_store_29 o2 o3 o4 (x := (h (h v0 1) v1)) rfl ?_
      refine aw_iconst dX9_store_30 ⟨by decide, by decide⟩ ?_
      refine aw_iload_n 2 dX9_store_31 rfl rfl ?_
      refine aw_iconst dX9_store_32 ⟨by decide, by decide⟩ ?_
      refine aw_iconst dX9_store_33 ⟨by decide, by decide⟩ ?_
      obtain ⟨o5, k⟩ := k
      refine aw_callV (M' := mm_X1_postWork) 1 [vI 1, vI v2, vI 0, vI 0] [] lk_X9_188 ⟨_, rfl, rfl⟩ dX9_store_34 rfl (Nat.le_of_ble_eq_true rfl) ⟨by decide, by decide, Nat.zero_le _, Nat.zero_le _⟩ o5 ?_
      exact k.mono (fun _ _ z => aw_sub [] rfl z)
    · have k := k.2 (b2i_n.mp hc)
      refine aw_sipush dX9_store_18 ⟨by decide, by decide⟩ (by decide) ?_
      refine aw_goto (tgt := 37) dX9_store_21 (by decide) ?_
      exact aw_iret dX9_store_37 rfl k
  · have k := k.2 (b2i_n.mp hc)
    refine aw_sipush dX9_store_7 ⟨by decide, by decide⟩ (by decide) ?_
    exact aw_iret dX9_store_10 rfl k
theorem rn_X9_store {G : GG} {Q : Option VV → Hp → Prop} {v0 v1 v2 : Int} {h : Hp} (k : ((¬ (v1 < 0 ∨ 3 < v1)) → ((¬ (v2 < 0 ∨ 9999 < v2)) → (h v0 (-1) = 10) ∧ (h (h v0 1) (-1) = 31) ∧ (0 ≤ v1) ∧ (v1 < h (h v0 1) (-2)) ∧ (h (h (h v0 1) v1) (-1) = 2) ∧ Runs G mm_X1_postWork [vR (h (h v0 1) v1), vI 1, vI v2, vI 0, vI 0] h (fun r h' => AW G mm_X9_store (0, 0) 37 [] (r.toList ++ []) h' Q)) ∧ ((v2 < 0 ∨ 9999 < v2) → Q (some (vI (-1002))) h)) ∧ ((v1 < 0 ∨ 3 < v1) → Q (some (vI (-1001))) h)) : Runs G mm_X9_store [vR v0, vI v1, vI v2] h Q := Runs.of (by decide +kernel) (Nat.le_of_ble_eq_true rfl) (sg_X9_store_0 (b := (0, 0)) k)
set_option maxRecDepth 20000 in
theorem sg_X9_store_37 {G : GG} {b : Nat × Nat} {Q : Option VV → Hp → Prop} {s0 : Int} {h : Hp} (k : Q (some (vI s0)) h) : AW G mm_X9_store b 37 [] [vI s0] h Q := by
  exact aw_iret dX9_store_37 rfl k
set_option maxRecDepth 20000 in
theorem sg_X9_swap_0 {G : GG} {b : Nat × Nat} {Q : Option VV → Hp → Prop} {v0 v1 v2 v3 v4 : Int} {h : Hp} (k : ((v1 < 0 ∨ 3 < v1) → Q (some (vI (-1001))) h) ∧ ((¬ (v1 < 0 ∨ 3 < v1)) → ((¬ (v4 < 0 ∨ 11 < v4)) → ((v2 < 0 ∨ 9999 < v2) → Q (some (vI (-1002))) h) ∧ ((¬ (v2 < 0 ∨ 9999 < v2)) → ((¬ (v3 < 0 ∨ 9999 < v3)) → (h v0 (-1) = 10) ∧ (h (h v0 1) (-1) = 31) ∧ (0 ≤ v1) ∧ (v1 < h (h v0 1) (-2)) ∧ (h (h (h v0 1) v1) (-1) = 2) ∧ Runs G mm_X1_postWork [vR (h (h v0 1) v1), vI 4, vI v2, vI v3, vI v4] h (fun r h' => AW G mm_X9_swap b 53 [] (r.toList ++ []) h' Q)) ∧ ((v3 < 0 ∨ 9999 < v3) → Q (some (vI (-1002))) h))) ∧ ((v4 < 0 ∨ 11 < v4) → Q (some (vI (-1001))) h))) : AW G mm_X9_swap b 0 [(0, vR v0), (1, vI v1), (2, vI v2), (3, vI v3), (4, vI v4)] [] h Q := by
  refine aw_iload_n 1 dX9_swap_0 rfl rfl ?_
  refine aw_callS (M' := mm_X9_isNoEnd) [vI v1] [] lk_X9_170 dX9_swap_1 rfl (Nat.le_of_ble_eq_true rfl) ⟨by decide, by decide, Nat.zero_le _, Nat.zero_le _⟩ ?_
  refine pu_X9_isNoEnd ?_
  refine aw_if_ne (tgt := 15) dX9_swap_4 (by decide) (fun hc => ?_) (fun hc => ?_)
  · have k := k.1 (b2i_n.mp hc)
    refine aw_sipush dX9_swap_15 ⟨by decide, by decide⟩ (by decide) ?_
    exact aw_iret dX9_swap_18 rfl k
  · have k := k.2 (b2i_0.mp hc)
    refine aw_iload 4 dX9_swap_7 rfl ?_
    refine aw_callS (M' := mm_X9_isNoCell) [vI v4] [] lk_X9_119 dX9_swap_9 rfl (Nat.le_of_ble_eq_true rfl) ⟨by decide, by decide, Nat.zero_le _, Nat.zero_le _⟩ ?_
    refine pu_X9_isNoCell ?_
    refine aw_if_eq (tgt := 19) dX9_swap_12 (by decide) (fun hc => ?_) (fun hc => ?_)
    · have k := k.1 (b2i_0.mp hc)
      refine aw_iload_n 2 dX9_swap_19 rfl rfl ?_
      refine aw_callS (M' := mm_X9_isNoValue) [vI v2] [] lk_X9_122 dX9_swap_20 rfl (Nat.le_of_ble_eq_true rfl) ⟨by decide, by decide, Nat.zero_le _, Nat.zero_le _⟩ ?_
      refine pu_X9_isNoValue ?_
      refine aw_if_ne (tgt := 33) dX9_swap_23 (by decide) (fun hc => ?_) (fun hc => ?_)
      · have k := k.1 (b2i_n.mp hc)
        refine aw_sipush dX9_swap_33 ⟨by decide, by decide⟩ (by decide) ?_
        refine aw_goto (tgt := 53) dX9_swap_36 (by decide) ?_
        exact aw_iret dX9_swap_53 rfl k
      · have k := k.2 (b2i_0.mp hc)
        refine aw_iload_n 3 dX9_swap_26 rfl rfl ?_
        refine aw_callS (M' := mm_X9_isNoValue) [vI v3] [] lk_X9_122 dX9_swap_27 rfl (Nat.le_of_ble_eq_true rfl) ⟨by decide, by decide, Nat.zero_le _, Nat.zero_le _⟩ ?_
        refine pu_X9_isNoValue ?_
        refine aw_if_eq (tgt := 39) dX9_swap_30 (by decide) (fun hc => ?_) (fun hc => ?_)
        · have k := k.1 (b2i_0.mp hc)
          refine aw_aload_n 0 dX9_swap_39 rfl rfl ?_
          obtain ⟨o1, k⟩ := k
          refine aw_getR dX9_swap_40 fl_X9_17 rfl o1 (x := (h v0 1)) rfl ?_
          refine aw_iload_n 1 dX9_swap_43 rfl rfl ?_
          obtain ⟨o2, k⟩ := k
          obtain ⟨o3, k⟩ := k
          obtain ⟨o4, k⟩ := k
          refine aw_aald 3 1 aq_1 dX9_swap_44 o2 o3 o4 (x := (h (h v0 1) v1)) rfl ?_
          refine aw_iconst dX9_swap_45 ⟨by decide, by decide⟩ ?_
          refine aw_iload_n 2 dX9_swap_46 rfl rfl ?_
          refine aw_iload_n 3 dX9_swap_47 rfl rfl ?_
          refine aw_iload 4 dX9_swap_48 rfl ?_
          obtain ⟨o5, k⟩ := k
          refine aw_callV (M' := mm_X1_postWork) 1 [vI 4, vI v2, vI v3, vI v4] [] lk_X9_188 ⟨_, rfl, rfl⟩ dX9_swap_50 rfl (Nat.le_of_ble_eq_true rfl) ⟨by decide, by decide, Nat.zero_le _, Nat.zero_le _⟩ o5 ?_
          exact k.mono (fun _ _ z => aw_sub [] rfl z)
        · have k := k.2 (b2i_n.mp hc)
          refine aw_sipush dX9_swap_33 ⟨by decide, by decide⟩ (by decide) ?_
          refine aw_goto (tgt := 53) dX9_swap_36 (by decide) ?_
          exact aw_iret dX9_swap_53 rfl k
    · have k := k.2 (b2i_n.mp hc)
      refine aw_sipush dX9_swap_15 ⟨by decide, by decide⟩ (by decide) ?_
      exact aw_iret dX9_swap_18 rfl k
theorem rn_X9_swap {G : GG} {Q : Option VV → Hp → Prop} {v0 v1 v2 v3 v4 : Int} {h : Hp} (k : ((v1 < 0 ∨ 3 < v1) → Q (some (vI (-1001))) h) ∧ ((¬ (v1 < 0 ∨ 3 < v1)) → ((¬ (v4 < 0 ∨ 11 < v4)) → ((v2 < 0 ∨ 9999 < v2) → Q (some (vI (-1002))) h) ∧ ((¬ (v2 < 0 ∨ 9999 < v2)) → ((¬ (v3 < 0 ∨ 9999 < v3)) → (h v0 (-1) = 10) ∧ (h (h v0 1) (-1) = 31) ∧ (0 ≤ v1) ∧ (v1 < h (h v0 1) (-2)) ∧ (h (h (h v0 1) v1) (-1) = 2) ∧ Runs G mm_X1_postWork [vR (h (h v0 1) v1), vI 4, vI v2, vI v3, vI v4] h (fun r h' => AW G mm_X9_swap (0, 0) 53 [] (r.toList ++ []) h' Q)) ∧ ((v3 < 0 ∨ 9999 < v3) → Q (some (vI (-1002))) h))) ∧ ((v4 < 0 ∨ 11 < v4) → Q (some (vI (-1001))) h))) : Runs G mm_X9_swap [vR v0, vI v1, vI v2, vI v3, vI v4] h Q := Runs.of (by decide +kernel) (Nat.le_of_ble_eq_true rfl) (sg_X9_swap_0 (b := (0, 0)) k)
set_option maxRecDepth 20000 in
theorem sg_X9_swap_53 {G : GG} {b : Nat × Nat} {Q : Option VV → Hp → Prop} {s0 : Int} {h : Hp} (k : Q (some (vI s0)) h) : AW G mm_X9_swap b 53 [] [vI s0] h Q := by
  exact aw_iret dX9_swap_53 rfl k
set_option maxRecDepth 20000 in
theorem sg_X9_take_0 {G : GG} {b : Nat × Nat} {Q : Option VV → Hp → Prop} {v0 v1 : Int} {h : Hp} (k : ((¬ (v1 < 0 ∨ 1 < v1)) → (h v0 (-1) = 10) ∧ (h (h v0 0) (-1) = 32) ∧ (0 ≤ v1) ∧ (v1 < h (h v0 0) (-2)) ∧ (h (h (h v0 0) v1) (-1) = 3) ∧ Runs G mm_X2_pullNotice [vR (h (h v0 0) v1)] h (fun r h' => AW G mm_X9_take b 20 [(0, vR v0), (1, vI v1)] (r.toList ++ []) h' Q)) ∧ ((v1 < 0 ∨ 1 < v1) → Q (some (vI (-1001))) h)) : AW G mm_X9_take b 0 [(0, vR v0), (1, vI v1)] [] h Q := by
  refine aw_iload_n 1 dX9_take_0 rfl rfl ?_
  refine aw_callS (M' := mm_X9_isNoHost) [vI v1] [] lk_X9_116 dX9_take_1 rfl (Nat.le_of_ble_eq_true rfl) ⟨by decide, by decide, Nat.zero_le _, Nat.zero_le _⟩ ?_
  refine pu_X9_isNoHost ?_
  refine aw_if_eq (tgt := 11) dX9_take_4 (by decide) (fun hc => ?_) (fun hc => ?_)
  · have k := k.1 (b2i_0.mp hc)
    refine aw_aload_n 0 dX9_take_11 rfl rfl ?_
    obtain ⟨o1, k⟩ := k
    refine aw_getR dX9_take_12 fl_X9_11 rfl o1 (x := (h v0 0)) rfl ?_
    refine aw_iload_n 1 dX9_take_15 rfl rfl ?_
    obtain ⟨o2, k⟩ := k
    obtain ⟨o3, k⟩ := k
    obtain ⟨o4, k⟩ := k
    refine aw_aald 4 2 aq_2 dX9_take_16 o2 o3 o4 (x := (h (h v0 0) v1)) rfl ?_
    obtain ⟨o5, k⟩ := k
    refine aw_callV (M' := mm_X2_pullNotice) 2 [] [] lk_X9_226 ⟨_, rfl, rfl⟩ dX9_take_17 rfl (Nat.le_of_ble_eq_true rfl) ⟨by decide, by decide, Nat.zero_le _, Nat.zero_le _⟩ o5 ?_
    exact k
  · have k := k.2 (b2i_n.mp hc)
    refine aw_sipush dX9_take_7 ⟨by decide, by decide⟩ (by decide) ?_
    exact aw_iret dX9_take_10 rfl k
theorem rn_X9_take {G : GG} {Q : Option VV → Hp → Prop} {v0 v1 : Int} {h : Hp} (k : ((¬ (v1 < 0 ∨ 1 < v1)) → (h v0 (-1) = 10) ∧ (h (h v0 0) (-1) = 32) ∧ (0 ≤ v1) ∧ (v1 < h (h v0 0) (-2)) ∧ (h (h (h v0 0) v1) (-1) = 3) ∧ Runs G mm_X2_pullNotice [vR (h (h v0 0) v1)] h (fun r h' => AW G mm_X9_take (0, 0) 20 [(0, vR v0), (1, vI v1)] (r.toList ++ []) h' Q)) ∧ ((v1 < 0 ∨ 1 < v1) → Q (some (vI (-1001))) h)) : Runs G mm_X9_take [vR v0, vI v1] h Q := Runs.of (by decide +kernel) (Nat.le_of_ble_eq_true rfl) (sg_X9_take_0 (b := (0, 0)) k)
set_option maxRecDepth 20000 in
theorem sg_X9_take_20 {G : GG} {b : Nat × Nat} {Q : Option VV → Hp → Prop} {v0 v1 s0 : Int} {h : Hp} (k : ((¬ s0 = 0) → (h v0 (-1) = 10) ∧ ∀ h1, h1 = wr h v0 4 s0 → ∀ h2, h2 = wr h1 v0 5 v1 → (h s0 (-1) = 5) ∧ Q (some (vI (h s0 3))) h2) ∧ ((s0 = 0) → Q (some (vI (-1))) h)) : AW G mm_X9_take b 20 [(0, vR v0), (1, vI v1)] [vR s0] h Q := by
  refine aw_astore_n dX9_take_20 rfl (by decide) ?_
  refine aw_aload_n 0 dX9_take_21 rfl rfl ?_
  refine aw_ifnonnull (tgt := 27) dX9_take_22 (by decide) (fun hc => ?_) (fun hc => ?_)
  · have k := k.1 hc
    refine aw_aload_n 1 dX9_take_27 rfl rfl ?_
    refine aw_aload_n 0 dX9_take_28 rfl rfl ?_
    obtain ⟨o1, k⟩ := k
    refine aw_putR dX9_take_29 fl_X9_35 (fun q hq hf => by cases hq; cases hf) rfl rfl o1 ?_
    refine aw_hp (fun h1 e2 => ?_)
    have k := k h1 e2
    refine aw_aload_n 1 dX9_take_32 rfl rfl ?_
    refine aw_iload_n 2 dX9_take_33 rfl rfl ?_
    have q3 := sh_w e2 (by decide) o1
    refine aw_putI dX9_take_34 fl_X9_39 (fun q hq hf => by cases hq; cases hf) rfl rfl q3 ?_
    refine aw_hp (fun h2 e4 => ?_)
    have k := k h2 e4
    refine aw_aload_n 0 dX9_take_37 rfl rfl ?_
    obtain ⟨o5, k⟩ := k
    have q6 := sh_w e2 (by decide) o5
    have q7 := sh_w e4 (by decide) q6
    refine aw_getI dX9_take_38 fl_X9_230 rfl q7 (x := (h s0 3)) ((rd_a e4 s0 3 (ne_sh q3 q6 (by decide))).trans (rd_a e2 s0 3 (ne_sh o1 o5 (by decide)))) ?_
    exact aw_iret dX9_take_41 rfl k
  · have k := k.2 hc
    refine aw_iconst dX9_take_25 ⟨by decide, by decide⟩ ?_
    exact aw_iret dX9_take_26 rfl k
set_option maxRecDepth 20000 in
theorem sg_X9_taken_0 {G : GG} {b : Nat × Nat} {Q : Option VV → Hp → Prop} {v0 v1 : Int} {h : Hp} (k : ((¬ (v1 < 0 ∨ 5 < v1)) → (h v0 (-1) = 10) ∧ ((¬ (h v0 4) = 0) → ((v1 = 0) → Q (some (vI (h v0 5))) h) ∧ ((v1 = 1) → (h (h v0 4) (-1) = 5) ∧ Q (some (vI (h (h v0 4) 0))) h) ∧ ((v1 = 2) → (h (h v0 4) (-1) = 5) ∧ Q (some (vI (h (h v0 4) 1))) h) ∧ ((v1 = 3) → (h (h v0 4) (-1) = 5) ∧ Q (some (vI (h (h v0 4) 2))) h) ∧ ((v1 = 4) → (h (h v0 4) (-1) = 5) ∧ Q (some (vI (h (h v0 4) 3))) h) ∧ ((v1 < 0 ∨ 4 < v1) → (h (h v0 4) (-1) = 5) ∧ Q (some (vI (h (h v0 4) 4))) h)) ∧ (((h v0 4) = 0) → Q (some (vI (-1))) h)) ∧ ((v1 < 0 ∨ 5 < v1) → Q (some (vI (-1002))) h)) : AW G mm_X9_taken b 0 [(0, vR v0), (1, vI v1)] [] h Q := by
  refine aw_iload_n 1 dX9_taken_0 rfl rfl ?_
  refine aw_iconst dX9_taken_1 ⟨by decide, by decide⟩ ?_
  refine aw_iconst dX9_taken_2 ⟨by decide, by decide⟩ ?_
  refine aw_callS (M' := mm_X9_isOutside) [vI v1, vI 0, vI 5] [] lk_X9_47 dX9_taken_3 rfl (Nat.le_of_ble_eq_true rfl) ⟨by decide, by decide, Nat.zero_le _, Nat.zero_le _⟩ ?_
  refine pu_X9_isOutside ?_
  refine aw_if_eq (tgt := 13) dX9_taken_6 (by decide) (fun hc => ?_) (fun hc => ?_)
  · have k := k.1 (b2i_0.mp hc)
    refine aw_aload_n 0 dX9_taken_13 rfl rfl ?_
    obtain ⟨o1, k⟩ := k
    refine aw_getR dX9_taken_14 fl_X9_35 rfl o1 (x := (h v0 4)) rfl ?_
    refine aw_ifnonnull (tgt := 22) dX9_taken_17 (by decide) (fun hc => ?_) (fun hc => ?_)
    · have k := k.1 hc
      refine aw_iload_n 1 dX9_taken_22 rfl rfl ?_
      rcases (show v1 = 0 ∨ v1 = 1 ∨ v1 = 2 ∨ v1 = 3 ∨ v1 = 4 ∨ (v1 < 0 ∨ 4 < v1) by omega) with hc | hc | hc | hc | hc | hc
      · have k := k.1 hc
        refine aw_tableIn (x := v1) (tgt := 56) dX9_taken_23 (by omega) (by omega) (by rw [hc]; rfl) (by decide) ?_
        refine aw_aload_n 0 dX9_taken_56 rfl rfl ?_
        refine aw_getI dX9_taken_57 fl_X9_39 rfl o1 (x := (h v0 5)) rfl ?_
        exact aw_iret dX9_taken_60 rfl k
      · have k := k.2.1 hc
        refine aw_tableIn (x := v1) (tgt := 61) dX9_taken_23 (by omega) (by omega) (by rw [hc]; rfl) (by decide) ?_
        refine aw_aload_n 0 dX9_taken_61 rfl rfl ?_
        refine aw_getR dX9_taken_62 fl_X9_35 rfl o1 (x := (h v0 4)) rfl ?_
        obtain ⟨o2, k⟩ := k
        refine aw_getI dX9_taken_65 fl_X9_235 rfl o2 (x := (h (h v0 4) 0)) rfl ?_
        exact aw_iret dX9_taken_68 rfl k
      · have k := k.2.2.1 hc
        refine aw_tableIn (x := v1) (tgt := 69) dX9_taken_23 (by omega) (by omega) (by rw [hc]; rfl) (by decide) ?_
        refine aw_aload_n 0 dX9_taken_69 rfl rfl ?_
        refine aw_getR dX9_taken_70 fl_X9_35 rfl o1 (x := (h v0 4)) rfl ?_
        obtain ⟨o3, k⟩ := k
        refine aw_getI dX9_taken_73 fl_X9_238 rfl o3 (x := (h (h v0 4) 1)) rfl ?_
        exact aw_iret dX9_taken_76 rfl k
      · have k := k.2.2.2.1 hc
        refine aw_tableIn (x := v1) (tgt := 77) dX9_taken_23 (by omega) (by omega) (by rw [hc]; rfl) (by decide) ?_
        refine aw_aload_n 0 dX9_taken_77 rfl rfl ?_
        refine aw_getR dX9_taken_78 fl_X9_35 rfl o1 (x := (h v0 4)) rfl ?_
        obtain ⟨o4, k⟩ := k
        refine aw_getI dX9_taken_81 fl_X9_241 rfl o4 (x := (h (h v0 4) 2)) rfl ?_
        exact aw_iret dX9_taken_84 rfl k
      · have k := k.2.2.2.2.1 hc
        refine aw_tableIn (x := v1) (tgt := 85) dX9_taken_23 (by omega) (by omega) (by rw [hc]; rfl) (by decide) ?_
        refine aw_aload_n 0 dX9_taken_85 rfl rfl ?_
        refine aw_getR dX9_taken_86 fl_X9_35 rfl o1 (x := (h v0 4)) rfl ?_
        obtain ⟨o5, k⟩ := k
        refine aw_getI dX9_taken_89 fl_X9_230 rfl o5 (x := (h (h v0 4) 3)) rfl ?_
        exact aw_iret dX9_taken_92 rfl k
      · have k := k.2.2.2.2.2 hc
        refine aw_tableOut (x := v1) (tgt := 93) dX9_taken_23 hc (by decide) ?_
        refine aw_aload_n 0 dX9_taken_93 rfl rfl ?_
        refine aw_getR dX9_taken_94 fl_X9_35 rfl o1 (x := (h v0 4)) rfl ?_
        obtain ⟨o6, k⟩ := k
        refine aw_getI dX9_taken_97 fl_X9_244 rfl o6 (x := (h (h v0 4) 4)) rfl ?_
        exact aw_iret dX9_taken_100 rfl k
    · have k := k.2 hc
      refine aw_iconst dX9_taken_20 ⟨by decide, by decide⟩ ?_
      exact aw_iret dX9_taken_21 rfl k
  · have k := k.2 (b2i_n.mp hc)
    refine aw_sipush dX9_taken_9 ⟨by decide, by decide⟩ (by decide) ?_
    exact aw_iret dX9_taken_12 rfl k
theorem rn_X9_taken {G : GG} {Q : Option VV → Hp → Prop} {v0 v1 : Int} {h : Hp} (k : ((¬ (v1 < 0 ∨ 5 < v1)) → (h v0 (-1) = 10) ∧ ((¬ (h v0 4) = 0) → ((v1 = 0) → Q (some (vI (h v0 5))) h) ∧ ((v1 = 1) → (h (h v0 4) (-1) = 5) ∧ Q (some (vI (h (h v0 4) 0))) h) ∧ ((v1 = 2) → (h (h v0 4) (-1) = 5) ∧ Q (some (vI (h (h v0 4) 1))) h) ∧ ((v1 = 3) → (h (h v0 4) (-1) = 5) ∧ Q (some (vI (h (h v0 4) 2))) h) ∧ ((v1 = 4) → (h (h v0 4) (-1) = 5) ∧ Q (some (vI (h (h v0 4) 3))) h) ∧ ((v1 < 0 ∨ 4 < v1) → (h (h v0 4) (-1) = 5) ∧ Q (some (vI (h (h v0 4) 4))) h)) ∧ (((h v0 4) = 0) → Q (some (vI (-1))) h)) ∧ ((v1 < 0 ∨ 5 < v1) → Q (some (vI (-1002))) h)) : Runs G mm_X9_taken [vR v0, vI v1] h Q := Runs.of (by decide +kernel) (Nat.le_of_ble_eq_true rfl) (sg_X9_taken_0 (b := (0, 0)) k)
set_option maxRecDepth 20000 in
theorem sg_X9_tear_0 {G : GG} {b : Nat × Nat} {Q : Option VV → Hp → Prop} {v0 v1 : Int} {h : Hp} (k : ((¬ (v1 < 0 ∨ 3 < v1)) → (h v0 (-1) = 10) ∧ (h (h v0 1) (-1) = 31) ∧ (0 ≤ v1) ∧ (v1 < h (h v0 1) (-2)) ∧ (h (h (h v0 1) v1) (-1) = 2) ∧ (((h (h (h v0 1) v1) 6) = 1) → (inI ((h (h (h v0 1) v1) 8) + (h (h (h v0 1) v1) 10))) ∧ (7 ≤ b.1) ∧ (42 ≤ b.2) ∧ Runs G mm_X1_breakUp [vR (h (h v0 1) v1)] h (fun r h' => AW G mm_X9_tear (b.1 - 7, b.2 - 42) 44 [(3, vI ((h (h (h v0 1) v1) 8) + (h (h (h v0 1) v1) 10)))] (r.toList ++ []) h' Q)) ∧ ((¬ ((h (h (h v0 1) v1) 6) = 1)) → Q (some (vI (-1003))) h)) ∧ ((v1 < 0 ∨ 3 < v1) → Q (some (vI (-1001))) h)) : AW G mm_X9_tear b 0 [(0, vR v0), (1, vI v1)] [] h Q := by
  refine aw_iload_n 1 dX9_tear_0 rfl rfl ?_
  refine aw_callS (M' := mm_X9_isNoEnd) [vI v1] [] lk_X9_170 dX9_tear_1 rfl (Nat.le_of_ble_eq_true rfl) ⟨by decide, by decide, Nat.zero_le _, Nat.zero_le _⟩ ?_
  refine pu_X9_isNoEnd ?_
  refine aw_if_eq (tgt := 11) dX9_tear_4 (by decide) (fun hc => ?_) (fun hc => ?_)
  · have k := k.1 (b2i_0.mp hc)
    refine aw_aload_n 0 dX9_tear_11 rfl rfl ?_
    obtain ⟨o1, k⟩ := k
    refine aw_getR dX9_tear_12 fl_X9_17 rfl o1 (x := (h v0 1)) rfl ?_
    refine aw_iload_n 1 dX9_tear_15 rfl rfl ?_
    obtain ⟨o2, k⟩ := k
    obtain ⟨o3, k⟩ := k
    obtain ⟨o4, k⟩ := k
    refine aw_aald 3 1 aq_1 dX9_tear_16 o2 o3 o4 (x := (h (h v0 1) v1)) rfl ?_
    refine aw_astore_n dX9_tear_17 rfl (by decide) ?_
    refine aw_aload_n 0 dX9_tear_18 rfl rfl ?_
    obtain ⟨o5, k⟩ := k
    refine aw_getI dX9_tear_19 fl_X9_158 rfl o5 (x := (h (h (h v0 1) v1) 6)) rfl ?_
    refine aw_iconst dX9_tear_22 ⟨by decide, by decide⟩ ?_
    refine aw_icmp_eq (tgt := 30) dX9_tear_23 (by decide) (fun hc => ?_) (fun hc => ?_)
    · have k := k.1 hc
      refine aw_aload_n 0 dX9_tear_30 rfl rfl ?_
      refine aw_getI dX9_tear_31 fl_X9_173 rfl o5 (x := (h (h (h v0 1) v1) 8)) rfl ?_
      refine aw_aload_n 0 dX9_tear_34 rfl rfl ?_
      refine aw_getI dX9_tear_35 fl_X9_176 rfl o5 (x := (h (h (h v0 1) v1) 10)) rfl ?_
      obtain ⟨o6, k⟩ := k
      refine aw_iadd dX9_tear_38 o6 ?_
      refine aw_istore_n dX9_tear_39 rfl (by decide) ?_
      refine aw_aload_n 1 dX9_tear_40 rfl rfl ?_
      obtain ⟨o7, k⟩ := k
      obtain ⟨o8, k⟩ := k
      refine aw_callV (M' := mm_X1_breakUp) 1 [] [] lk_X9_179 ⟨_, rfl, rfl⟩ dX9_tear_41 rfl (Nat.le_of_ble_eq_true rfl) ⟨by decide, by decide, o7, o8⟩ o5 ?_
      exact k.mono (fun _ _ z => aw_sub [0] rfl z)
    · have k := k.2 hc
      refine aw_sipush dX9_tear_26 ⟨by decide, by decide⟩ (by decide) ?_
      exact aw_iret dX9_tear_29 rfl k
  · have k := k.2 (b2i_n.mp hc)
    refine aw_sipush dX9_tear_7 ⟨by decide, by decide⟩ (by decide) ?_
    exact aw_iret dX9_tear_10 rfl k
theorem rn_X9_tear {G : GG} {Q : Option VV → Hp → Prop} {v0 v1 : Int} {h : Hp} (k : ((¬ (v1 < 0 ∨ 3 < v1)) → (h v0 (-1) = 10) ∧ (h (h v0 1) (-1) = 31) ∧ (0 ≤ v1) ∧ (v1 < h (h v0 1) (-2)) ∧ (h (h (h v0 1) v1) (-1) = 2) ∧ (((h (h (h v0 1) v1) 6) = 1) → (inI ((h (h (h v0 1) v1) 8) + (h (h (h v0 1) v1) 10))) ∧ (7 ≤ 7) ∧ (42 ≤ 42) ∧ Runs G mm_X1_breakUp [vR (h (h v0 1) v1)] h (fun r h' => AW G mm_X9_tear (7 - 7, 42 - 42) 44 [(3, vI ((h (h (h v0 1) v1) 8) + (h (h (h v0 1) v1) 10)))] (r.toList ++ []) h' Q)) ∧ ((¬ ((h (h (h v0 1) v1) 6) = 1)) → Q (some (vI (-1003))) h)) ∧ ((v1 < 0 ∨ 3 < v1) → Q (some (vI (-1001))) h)) : Runs G mm_X9_tear [vR v0, vI v1] h Q := Runs.of (by decide +kernel) (Nat.le_of_ble_eq_true rfl) (sg_X9_tear_0 (b := (7, 42)) k)
set_option maxRecDepth 20000 in
theorem sg_X9_tear_44 {G : GG} {b : Nat × Nat} {Q : Option VV → Hp → Prop} {v3 : Int} {h : Hp} (k : Q (some (vI v3)) h) : AW G mm_X9_tear b 44 [(3, vI v3)] [] h Q := by
  refine aw_iload_n 0 dX9_tear_44 rfl rfl ?_
  exact aw_iret dX9_tear_45 rfl k
set_option maxRecDepth 20000 in
theorem sg_X9_tell_0 {G : GG} {b : Nat × Nat} {Q : Option VV → Hp → Prop} {v0 : Int} {h : Hp} (k : (h v0 (-1) = 10) ∧ (h (h v0 3) (-1) = 7) ∧ Runs G mm_X6_findFault [vR (h v0 3)] h (fun r h' => AW G mm_X9_tell b 7 [(0, vR v0)] (r.toList ++ []) h' Q)) : AW G mm_X9_tell b 0 [(0, vR v0)] [] h Q := by
  refine aw_aload_n 0 dX9_tell_0 rfl rfl ?_
  obtain ⟨o1, k⟩ := k
  refine aw_getR dX9_tell_1 fl_X9_31 rfl o1 (x := (h v0 3)) rfl ?_
  obtain ⟨o2, k⟩ := k
  refine aw_callV (M' := mm_X6_findFault) 6 [] [] lk_X9_58 ⟨_, rfl, rfl⟩ dX9_tell_4 rfl (Nat.le_of_ble_eq_true rfl) ⟨by decide, by decide, Nat.zero_le _, Nat.zero_le _⟩ o2 ?_
  exact k
theorem rn_X9_tell {G : GG} {Q : Option VV → Hp → Prop} {v0 : Int} {h : Hp} (k : (h v0 (-1) = 10) ∧ (h (h v0 3) (-1) = 7) ∧ Runs G mm_X6_findFault [vR (h v0 3)] h (fun r h' => AW G mm_X9_tell (0, 0) 7 [(0, vR v0)] (r.toList ++ []) h' Q)) : Runs G mm_X9_tell [vR v0] h Q := Runs.of (by decide +kernel) (Nat.le_of_ble_eq_true rfl) (sg_X9_tell_0 (b := (0, 0)) k)
set_option maxRecDepth 20000 in
theorem sg_X9_tell_7 {G : GG} {b : Nat × Nat} {Q : Option VV → Hp → Prop} {v0 s0 : Int} {h : Hp} (k : ((s0 = (-1)) → (h v0 (-1) = 10) ∧ (h (h v0 3) (-1) = 7) ∧ Runs G mm_X6_rewind [vR (h v0 3)] h (fun r h' => AW G mm_X9_tell b 30 [(0, vR v0), (1, vI (h (h v0 3) 6))] (r.toList ++ []) h' Q)) ∧ ((¬ (s0 = (-1))) → Q (some (vI (-1003))) h)) : AW G mm_X9_tell b 7 [(0, vR v0)] [vI s0] h Q := by
  refine aw_iconst dX9_tell_7 ⟨by decide, by decide⟩ ?_
  refine aw_icmp_eq (tgt := 15) dX9_tell_8 (by decide) (fun hc => ?_) (fun hc => ?_)
  · have k := k.1 hc
    refine aw_aload_n 0 dX9_tell_15 rfl rfl ?_
    obtain ⟨o1, k⟩ := k
    refine aw_getR dX9_tell_16 fl_X9_31 rfl o1 (x := (h v0 3)) rfl ?_
    obtain ⟨o2, k⟩ := k
    refine aw_getI dX9_tell_19 fl_X9_62 rfl o2 (x := (h (h v0 3) 6)) rfl ?_
    refine aw_istore_n dX9_tell_22 rfl (by decide) ?_
    refine aw_aload_n 1 dX9_tell_23 rfl rfl ?_
    refine aw_getR dX9_tell_24 fl_X9_31 rfl o1 (x := (h v0 3)) rfl ?_
    refine aw_callV (M' := mm_X6_rewind) 6 [] [] lk_X9_65 ⟨_, rfl, rfl⟩ dX9_tell_27 rfl (Nat.le_of_ble_eq_true rfl) ⟨by decide, by decide, Nat.zero_le _, Nat.zero_le _⟩ o2 ?_
    exact k.mono (fun _ _ z => aw_sub [1, 0] rfl z)
  · have k := k.2 hc
    refine aw_sipush dX9_tell_11 ⟨by decide, by decide⟩ (by decide) ?_
    exact aw_iret dX9_tell_14 rfl k
set_option maxRecDepth 20000 in
theorem sg_X9_tell_30 {G : GG} {b : Nat × Nat} {Q : Option VV → Hp → Prop} {v0 v1 : Int} {h : Hp} (k : AW G mm_X9_tell b 32 [(0, vR v0), (1, vI v1), (2, vI 0)] [] h Q) : AW G mm_X9_tell b 30 [(0, vR v0), (1, vI v1)] [] h Q := by
  refine aw_iconst dX9_tell_30 ⟨by decide, by decide⟩ ?_
  refine aw_istore_n dX9_tell_31 rfl (by decide) ?_
  exact aw_sub [1, 2, 0] rfl k
set_option maxRecDepth 20000 in
theorem sg_X9_tell_32 {G : GG} {b : Nat × Nat} {Q : Option VV → Hp → Prop} {v0 v1 v2 : Int} {h : Hp} (k : ((v1 ≤ v2) → (h v0 (-1) = 10) ∧ (h (h v0 3) (-1) = 7) ∧ ∀ h1, h1 = wr h (h v0 3) 2 0 → Q (some (vI v1)) h1) ∧ ((¬ (v1 ≤ v2)) → (h v0 (-1) = 10) ∧ (h (h v0 3) (-1) = 7) ∧ Runs G mm_X6_readClause [vR (h v0 3)] h (fun r h' => AW G mm_X9_tell b 44 [(0, vR v0), (1, vI v1), (2, vI v2)] (r.toList ++ []) h' Q))) : AW G mm_X9_tell b 32 [(0, vR v0), (1, vI v1), (2, vI v2)] [] h Q := by
  refine aw_iload_n 2 dX9_tell_32 rfl rfl ?_
  refine aw_iload_n 1 dX9_tell_33 rfl rfl ?_
  refine aw_icmp_ge (tgt := 78) dX9_tell_34 (by decide) (fun hc => ?_) (fun hc => ?_)
  · have k := k.1 hc
    refine aw_aload_n 0 dX9_tell_78 rfl rfl ?_
    obtain ⟨o1, k⟩ := k
    refine aw_getR dX9_tell_79 fl_X9_31 rfl o1 (x := (h v0 3)) rfl ?_
    refine aw_iconst dX9_tell_82 ⟨by decide, by decide⟩ ?_
    obtain ⟨o2, k⟩ := k
    refine aw_putI dX9_tell_83 fl_X9_51 (fun q hq hf => by cases hq; cases hf) rfl rfl o2 ?_
    refine aw_hp (fun h1 e3 => ?_)
    have k := k h1 e3
    refine aw_iload_n 1 dX9_tell_86 rfl rfl ?_
    exact aw_iret dX9_tell_87 rfl k
  · have k := k.2 hc
    refine aw_aload_n 0 dX9_tell_37 rfl rfl ?_
    obtain ⟨o4, k⟩ := k
    refine aw_getR dX9_tell_38 fl_X9_31 rfl o4 (x := (h v0 3)) rfl ?_
    obtain ⟨o5, k⟩ := k
    refine aw_callV (M' := mm_X6_readClause) 6 [] [] lk_X9_68 ⟨_, rfl, rfl⟩ dX9_tell_41 rfl (Nat.le_of_ble_eq_true rfl) ⟨by decide, by decide, Nat.zero_le _, Nat.zero_le _⟩ o5 ?_
    exact k
set_option maxRecDepth 20000 in
theorem sg_X9_tell_44 {G : GG} {b : Nat × Nat} {Q : Option VV → Hp → Prop} {v0 v1 v2 s0 : Int} {h : Hp} (k : ((s0 = 0) → (h v0 (-1) = 10) ∧ (h (h v0 3) (-1) = 7) ∧ Runs G mm_X6_nextToken [vR (h v0 3)] h (fun r h' => AW G mm_X9_tell b 72 [(0, vR v0), (1, vI v1), (2, vI v2)] (r.toList ++ []) h' Q)) ∧ ((¬ (s0 = 0)) → (h v0 (-1) = 10) ∧ (h (h v0 3) (-1) = 7) ∧ Runs G mm_X9_doClause [vR v0, vI (h (h v0 3) 5), vR (h (h v0 3) 1)] h (fun r h' => AW G mm_X9_tell b 65 [(0, vR v0), (1, vI v1), (2, vI v2)] (r.toList ++ []) h' Q))) : AW G mm_X9_tell b 44 [(0, vR v0), (1, vI v1), (2, vI v2)] [vI s0] h Q := by
  refine aw_if_eq (tgt := 65) dX9_tell_44 (by decide) (fun hc => ?_) (fun hc => ?_)
  · have k := k.1 hc
    refine aw_aload_n 0 dX9_tell_65 rfl rfl ?_
    obtain ⟨o1, k⟩ := k
    refine aw_getR dX9_tell_66 fl_X9_31 rfl o1 (x := (h v0 3)) rfl ?_
    obtain ⟨o2, k⟩ := k
    refine aw_callV (M' := mm_X6_nextToken) 6 [] [] lk_X9_83 ⟨_, rfl, rfl⟩ dX9_tell_69 rfl (Nat.le_of_ble_eq_true rfl) ⟨by decide, by decide, Nat.zero_le _, Nat.zero_le _⟩ o2 ?_
    exact k
  · have k := k.2 hc
    refine aw_aload_n 0 dX9_tell_47 rfl rfl ?_
    refine aw_aload_n 0 dX9_tell_48 rfl rfl ?_
    obtain ⟨o3, k⟩ := k
    refine aw_getR dX9_tell_49 fl_X9_31 rfl o3 (x := (h v0 3)) rfl ?_
    obtain ⟨o4, k⟩ := k
    refine aw_getI dX9_tell_52 fl_X9_72 rfl o4 (x := (h (h v0 3) 5)) rfl ?_
    refine aw_aload_n 0 dX9_tell_55 rfl rfl ?_
    refine aw_getR dX9_tell_56 fl_X9_31 rfl o3 (x := (h v0 3)) rfl ?_
    refine aw_getR dX9_tell_59 fl_X9_75 rfl o4 (x := (h (h v0 3) 1)) rfl ?_
    refine aw_callV (M' := mm_X9_doClause) 9 [vI (h (h v0 3) 5), vR (h (h v0 3) 1)] [] lk_X9_79 ⟨_, rfl, rfl⟩ dX9_tell_62 rfl (Nat.le_of_ble_eq_true rfl) ⟨by decide, by decide, Nat.zero_le _, Nat.zero_le _⟩ o3 ?_
    exact k
set_option maxRecDepth 20000 in
theorem sg_X9_tell_72 {G : GG} {b : Nat × Nat} {Q : Option VV → Hp → Prop} {v0 v1 v2 : Int} {h : Hp} (k : (inI (v2 + 1)) ∧ AW G mm_X9_tell b 32 [(0, vR v0), (1, vI v1), (2, vI (v2 + 1))] [] h Q) : AW G mm_X9_tell b 72 [(0, vR v0), (1, vI v1), (2, vI v2)] [] h Q := by
  obtain ⟨o1, k⟩ := k
  refine aw_iinc 2 dX9_tell_72 rfl o1 (by decide) ?_
  refine aw_goto (tgt := 32) dX9_tell_75 (by decide) ?_
  exact aw_sub [1, 2, 0] rfl k
set_option maxRecDepth 20000 in
theorem sg_X9_tell_65 {G : GG} {b : Nat × Nat} {Q : Option VV → Hp → Prop} {v0 v1 v2 : Int} {h : Hp} (k : (h v0 (-1) = 10) ∧ (h (h v0 3) (-1) = 7) ∧ Runs G mm_X6_nextToken [vR (h v0 3)] h (fun r h' => AW G mm_X9_tell b 72 [(0, vR v0), (1, vI v1), (2, vI v2)] (r.toList ++ []) h' Q)) : AW G mm_X9_tell b 65 [(0, vR v0), (1, vI v1), (2, vI v2)] [] h Q := by
  refine aw_aload_n 0 dX9_tell_65 rfl rfl ?_
  obtain ⟨o1, k⟩ := k
  refine aw_getR dX9_tell_66 fl_X9_31 rfl o1 (x := (h v0 3)) rfl ?_
  obtain ⟨o2, k⟩ := k
  refine aw_callV (M' := mm_X6_nextToken) 6 [] [] lk_X9_83 ⟨_, rfl, rfl⟩ dX9_tell_69 rfl (Nat.le_of_ble_eq_true rfl) ⟨by decide, by decide, Nat.zero_le _, Nat.zero_le _⟩ o2 ?_
  exact k
