/-! printed by mkseg.py: small methods that change nothing -/
set_option maxRecDepth 20000 in
theorem sg_X9_isOutside_0 {G : GG} {b : Nat × Nat} {Q : Option VV → Hp → Prop} {v0 v1 v2 : Int} {h : Hp} (k : ((v0 < v1) → Q (some (vI 1)) h) ∧ ((¬ (v0 < v1)) → ((v0 ≤ v2) → Q (some (vI 0)) h) ∧ ((¬ (v0 ≤ v2)) → Q (some (vI 1)) h))) : AW G mm_X9_isOutside b 0 [(0, vI v0), (1, vI v1), (2, vI v2)] [] h Q := by
  refine aw_iload_n 0 dX9_isOutside_0 rfl rfl ?_
  refine aw_iload_n 1 dX9_isOutside_1 rfl rfl ?_
  refine aw_icmp_lt (tgt := 10) dX9_isOutside_2 (by decide) (fun hc => ?_) (fun hc => ?_)
  · have k := k.1 hc
    refine aw_iconst dX9_isOutside_10 ⟨by decide, by decide⟩ ?_
    refine aw_goto (tgt := 15) dX9_isOutside_11 (by decide) ?_
    exact aw_zret dX9_isOutside_15 rfl (by decide) k
  · have k := k.2 hc
    refine aw_iload_n 0 dX9_isOutside_5 rfl rfl ?_
    refine aw_iload_n 2 dX9_isOutside_6 rfl rfl ?_
    refine aw_icmp_le (tgt := 14) dX9_isOutside_7 (by decide) (fun hc => ?_) (fun hc => ?_)
    · have k := k.1 hc
      refine aw_iconst dX9_isOutside_14 ⟨by decide, by decide⟩ ?_
      exact aw_zret dX9_isOutside_15 rfl (by decide) k
    · have k := k.2 hc
      refine aw_iconst dX9_isOutside_10 ⟨by decide, by decide⟩ ?_
      refine aw_goto (tgt := 15) dX9_isOutside_11 (by decide) ?_
      exact aw_zret dX9_isOutside_15 rfl (by decide) k
theorem rn_X9_isOutside {G : GG} {Q : Option VV → Hp → Prop} {v0 v1 v2 : Int} {h : Hp} (k : ((v0 < v1) → Q (some (vI 1)) h) ∧ ((¬ (v0 < v1)) → ((v0 ≤ v2) → Q (some (vI 0)) h) ∧ ((¬ (v0 ≤ v2)) → Q (some (vI 1)) h))) : Runs G mm_X9_isOutside [vI v0, vI v1, vI v2] h Q := Runs.of (by decide +kernel) (Nat.le_of_ble_eq_true rfl) (sg_X9_isOutside_0 (b := (0, 0)) k)
theorem pu_X9_isOutside {G : GG} {Q : Option VV → Hp → Prop} {v0 v1 v2 : Int} {h : Hp} (k : Q (some (vI (b2i (v0 < v1 ∨ v2 < v0)))) h) : Runs G mm_X9_isOutside [vI v0, vI v1, vI v2] h Q := by
  first
    | exact rn_X9_isOutside k
    | refine rn_X9_isOutside ?_
      (repeat' (first | (refine ⟨?_, ?_⟩) | intro _))
      all_goals first
        | (rw [b2i_t (by omega)] at k; exact k)
        | (rw [b2i_f (by omega)] at k; exact k)
set_option maxRecDepth 20000 in
theorem sg_X9_isNoHost_0 {G : GG} {b : Nat × Nat} {Q : Option VV → Hp → Prop} {v0 : Int} {h : Hp} (k : Q (some (vI (b2i (v0 < 0 ∨ 1 < v0)))) h) : AW G mm_X9_isNoHost b 0 [(0, vI v0)] [] h Q := by
  refine aw_iload_n 0 dX9_isNoHost_0 rfl rfl ?_
  refine aw_iconst dX9_isNoHost_1 ⟨by decide, by decide⟩ ?_
  refine aw_iconst dX9_isNoHost_2 ⟨by decide, by decide⟩ ?_
  refine aw_callS (M' := mm_X9_isOutside) [vI v0, vI 0, vI 1] [] lk_X9_47 dX9_isNoHost_3 rfl (by decide) ⟨by decide, by decide, Nat.zero_le _, Nat.zero_le _⟩ ?_
  refine pu_X9_isOutside ?_
  exact aw_zret dX9_isNoHost_6 rfl b2i_or k
theorem rn_X9_isNoHost {G : GG} {Q : Option VV → Hp → Prop} {v0 : Int} {h : Hp} (k : Q (some (vI (b2i (v0 < 0 ∨ 1 < v0)))) h) : Runs G mm_X9_isNoHost [vI v0] h Q := Runs.of (by decide +kernel) (Nat.le_of_ble_eq_true rfl) (sg_X9_isNoHost_0 (b := (0, 0)) k)
theorem pu_X9_isNoHost {G : GG} {Q : Option VV → Hp → Prop} {v0 : Int} {h : Hp} (k : Q (some (vI (b2i (v0 < 0 ∨ 1 < v0)))) h) : Runs G mm_X9_isNoHost [vI v0] h Q := by
  first
    | exact rn_X9_isNoHost k
    | refine rn_X9_isNoHost ?_
      (repeat' (first | (refine ⟨?_, ?_⟩) | intro _))
      all_goals first
        | (rw [b2i_t (by omega)] at k; exact k)
        | (rw [b2i_f (by omega)] at k; exact k)
set_option maxRecDepth 20000 in
theorem sg_X9_isNoCell_0 {G : GG} {b : Nat × Nat} {Q : Option VV → Hp → Prop} {v0 : Int} {h : Hp} (k : Q (some (vI (b2i (v0 < 0 ∨ 11 < v0)))) h) : AW G mm_X9_isNoCell b 0 [(0, vI v0)] [] h Q := by
  refine aw_iload_n 0 dX9_isNoCell_0 rfl rfl ?_
  refine aw_iconst dX9_isNoCell_1 ⟨by decide, by decide⟩ ?_
  refine aw_bipush dX9_isNoCell_2 ⟨by decide, by decide⟩ (by decide) ?_
  refine aw_callS (M' := mm_X9_isOutside) [vI v0, vI 0, vI 11] [] lk_X9_47 dX9_isNoCell_4 rfl (by decide) ⟨by decide, by decide, Nat.zero_le _, Nat.zero_le _⟩ ?_
  refine pu_X9_isOutside ?_
  exact aw_zret dX9_isNoCell_7 rfl b2i_or k
theorem rn_X9_isNoCell {G : GG} {Q : Option VV → Hp → Prop} {v0 : Int} {h : Hp} (k : Q (some (vI (b2i (v0 < 0 ∨ 11 < v0)))) h) : Runs G mm_X9_isNoCell [vI v0] h Q := Runs.of (by decide +kernel) (Nat.le_of_ble_eq_true rfl) (sg_X9_isNoCell_0 (b := (0, 0)) k)
theorem pu_X9_isNoCell {G : GG} {Q : Option VV → Hp → Prop} {v0 : Int} {h : Hp} (k : Q (some (vI (b2i (v0 < 0 ∨ 11 < v0)))) h) : Runs G mm_X9_isNoCell [vI v0] h Q := by
  first
    | exact rn_X9_isNoCell k
    | refine rn_X9_isNoCell ?_
      (repeat' (first | (refine ⟨?_, ?_⟩) | intro _))
      all_goals first
        | (rw [b2i_t (by omega)] at k; exact k)
        | (rw [b2i_f (by omega)] at k; exact k)
set_option maxRecDepth 20000 in
theorem sg_X9_isNoKey_0 {G : GG} {b : Nat × Nat} {Q : Option VV → Hp → Prop} {v0 : Int} {h : Hp} (k : Q (some (vI (b2i (v0 < 0 ∨ 3 < v0)))) h) : AW G mm_X9_isNoKey b 0 [(0, vI v0)] [] h Q := by
  refine aw_iload_n 0 dX9_isNoKey_0 rfl rfl ?_
  refine aw_iconst dX9_isNoKey_1 ⟨by decide, by decide⟩ ?_
  refine aw_iconst dX9_isNoKey_2 ⟨by decide, by decide⟩ ?_
  refine aw_callS (M' := mm_X9_isOutside) [vI v0, vI 0, vI 3] [] lk_X9_47 dX9_isNoKey_3 rfl (by decide) ⟨by decide, by decide, Nat.zero_le _, Nat.zero_le _⟩ ?_
  refine pu_X9_isOutside ?_
  exact aw_zret dX9_isNoKey_6 rfl b2i_or k
theorem rn_X9_isNoKey {G : GG} {Q : Option VV → Hp → Prop} {v0 : Int} {h : Hp} (k : Q (some (vI (b2i (v0 < 0 ∨ 3 < v0)))) h) : Runs G mm_X9_isNoKey [vI v0] h Q := Runs.of (by decide +kernel) (Nat.le_of_ble_eq_true rfl) (sg_X9_isNoKey_0 (b := (0, 0)) k)
theorem pu_X9_isNoKey {G : GG} {Q : Option VV → Hp → Prop} {v0 : Int} {h : Hp} (k : Q (some (vI (b2i (v0 < 0 ∨ 3 < v0)))) h) : Runs G mm_X9_isNoKey [vI v0] h Q := by
  first
    | exact rn_X9_isNoKey k
    | refine rn_X9_isNoKey ?_
      (repeat' (first | (refine ⟨?_, ?_⟩) | intro _))
      all_goals first
        | (rw [b2i_t (by omega)] at k; exact k)
        | (rw [b2i_f (by omega)] at k; exact k)
set_option maxRecDepth 20000 in
theorem sg_X9_isNoLine_0 {G : GG} {b : Nat × Nat} {Q : Option VV → Hp → Prop} {v0 : Int} {h : Hp} (k : Q (some (vI (b2i (v0 < 0 ∨ 1 < v0)))) h) : AW G mm_X9_isNoLine b 0 [(0, vI v0)] [] h Q := by
  refine aw_iload_n 0 dX9_isNoLine_0 rfl rfl ?_
  refine aw_iconst dX9_isNoLine_1 ⟨by decide, by decide⟩ ?_
  refine aw_iconst dX9_isNoLine_2 ⟨by decide, by decide⟩ ?_
  refine aw_callS (M' := mm_X9_isOutside) [vI v0, vI 0, vI 1] [] lk_X9_47 dX9_isNoLine_3 rfl (by decide) ⟨by decide, by decide, Nat.zero_le _, Nat.zero_le _⟩ ?_
  refine pu_X9_isOutside ?_
  exact aw_zret dX9_isNoLine_6 rfl b2i_or k
theorem rn_X9_isNoLine {G : GG} {Q : Option VV → Hp → Prop} {v0 : Int} {h : Hp} (k : Q (some (vI (b2i (v0 < 0 ∨ 1 < v0)))) h) : Runs G mm_X9_isNoLine [vI v0] h Q := Runs.of (by decide +kernel) (Nat.le_of_ble_eq_true rfl) (sg_X9_isNoLine_0 (b := (0, 0)) k)
theorem pu_X9_isNoLine {G : GG} {Q : Option VV → Hp → Prop} {v0 : Int} {h : Hp} (k : Q (some (vI (b2i (v0 < 0 ∨ 1 < v0)))) h) : Runs G mm_X9_isNoLine [vI v0] h Q := by
  first
    | exact rn_X9_isNoLine k
    | refine rn_X9_isNoLine ?_
      (repeat' (first | (refine ⟨?_, ?_⟩) | intro _))
      all_goals first
        | (rw [b2i_t (by omega)] at k; exact k)
        | (rw [b2i_f (by omega)] at k; exact k)
set_option maxRecDepth 20000 in
theorem sg_X9_isNoEnd_0 {G : GG} {b : Nat × Nat} {Q : Option VV → Hp → Prop} {v0 : Int} {h : Hp} (k : Q (some (vI (b2i (v0 < 0 ∨ 3 < v0)))) h) : AW G mm_X9_isNoEnd b 0 [(0, vI v0)] [] h Q := by
  refine aw_iload_n 0 dX9_isNoEnd_0 rfl rfl ?_
  refine aw_iconst dX9_isNoEnd_1 ⟨by decide, by decide⟩ ?_
  refine aw_iconst dX9_isNoEnd_2 ⟨by decide, by decide⟩ ?_
  refine aw_callS (M' := mm_X9_isOutside) [vI v0, vI 0, vI 3] [] lk_X9_47 dX9_isNoEnd_3 rfl (by decide) ⟨by decide, by decide, Nat.zero_le _, Nat.zero_le _⟩ ?_
  refine pu_X9_isOutside ?_
  exact aw_zret dX9_isNoEnd_6 rfl b2i_or k
theorem rn_X9_isNoEnd {G : GG} {Q : Option VV → Hp → Prop} {v0 : Int} {h : Hp} (k : Q (some (vI (b2i (v0 < 0 ∨ 3 < v0)))) h) : Runs G mm_X9_isNoEnd [vI v0] h Q := Runs.of (by decide +kernel) (Nat.le_of_ble_eq_true rfl) (sg_X9_isNoEnd_0 (b := (0, 0)) k)
theorem pu_X9_isNoEnd {G : GG} {Q : Option VV → Hp → Prop} {v0 : Int} {h : Hp} (k : Q (some (vI (b2i (v0 < 0 ∨ 3 < v0)))) h) : Runs G mm_X9_isNoEnd [vI v0] h Q := by
  first
    | exact rn_X9_isNoEnd k
    | refine rn_X9_isNoEnd ?_
      (repeat' (first | (refine ⟨?_, ?_⟩) | intro _))
      all_goals first
        | (rw [b2i_t (by omega)] at k; exact k)
        | (rw [b2i_f (by omega)] at k; exact k)
set_option maxRecDepth 20000 in
theorem sg_X9_isNoValue_0 {G : GG} {b : Nat × Nat} {Q : Option VV → Hp → Prop} {v0 : Int} {h : Hp} (k : Q (some (vI (b2i (v0 < 0 ∨ 9999 < v0)))) h) : AW G mm_X9_isNoValue b 0 [(0, vI v0)] [] h Q := by
  refine aw_iload_n 0 dX9_isNoValue_0 rfl rfl ?_
  refine aw_iconst dX9_isNoValue_1 ⟨by decide, by decide⟩ ?_
  refine aw_sipush dX9_isNoValue_2 ⟨by decide, by decide⟩ (by decide) ?_
  refine aw_callS (M' := mm_X9_isOutside) [vI v0, vI 0, vI 9999] [] lk_X9_47 dX9_isNoValue_5 rfl (by decide) ⟨by decide, by decide, Nat.zero_le _, Nat.zero_le _⟩ ?_
  refine pu_X9_isOutside ?_
  exact aw_zret dX9_isNoValue_8 rfl b2i_or k
theorem rn_X9_isNoValue {G : GG} {Q : Option VV → Hp → Prop} {v0 : Int} {h : Hp} (k : Q (some (vI (b2i (v0 < 0 ∨ 9999 < v0)))) h) : Runs G mm_X9_isNoValue [vI v0] h Q := Runs.of (by decide +kernel) (Nat.le_of_ble_eq_true rfl) (sg_X9_isNoValue_0 (b := (0, 0)) k)
theorem pu_X9_isNoValue {G : GG} {Q : Option VV → Hp → Prop} {v0 : Int} {h : Hp} (k : Q (some (vI (b2i (v0 < 0 ∨ 9999 < v0)))) h) : Runs G mm_X9_isNoValue [vI v0] h Q := by
  first
    | exact rn_X9_isNoValue k
    | refine rn_X9_isNoValue ?_
      (repeat' (first | (refine ⟨?_, ?_⟩) | intro _))
      all_goals first
        | (rw [b2i_t (by omega)] at k; exact k)
        | (rw [b2i_f (by omega)] at k; exact k)
set_option maxRecDepth 20000 in
theorem sg_X9_isFetch_0 {G : GG} {b : Nat × Nat} {Q : Option VV → Hp → Prop} {v0 : Int} {h : Hp} (k : ((v0 = 2) → Q (some (vI 1)) h) ∧ ((¬ (v0 = 2)) → ((v0 = 3) → Q (some (vI 1)) h) ∧ ((¬ (v0 = 3)) → ((¬ v0 = 4) → Q (some (vI 0)) h) ∧ ((v0 = 4) → Q (some (vI 1)) h)))) : AW G mm_X9_isFetch b 0 [(0, vI v0)] [] h Q := by
  refine aw_iload_n 0 dX9_isFetch_0 rfl rfl ?_
  refine aw_iconst dX9_isFetch_1 ⟨by decide, by decide⟩ ?_
  refine aw_icmp_eq (tgt := 15) dX9_isFetch_2 (by decide) (fun hc => ?_) (fun hc => ?_)
  · have k := k.1 hc
    refine aw_iconst dX9_isFetch_15 ⟨by decide, by decide⟩ ?_
    refine aw_goto (tgt := 20) dX9_isFetch_16 (by decide) ?_
    exact aw_zret dX9_isFetch_20 rfl (by decide) k
  · have k := k.2 hc
    refine aw_iload_n 0 dX9_isFetch_5 rfl rfl ?_
    refine aw_iconst dX9_isFetch_6 ⟨by decide, by decide⟩ ?_
    refine aw_icmp_eq (tgt := 15) dX9_isFetch_7 (by decide) (fun hc => ?_) (fun hc => ?_)
    · have k := k.1 hc
      refine aw_iconst dX9_isFetch_15 ⟨by decide, by decide⟩ ?_
      refine aw_goto (tgt := 20) dX9_isFetch_16 (by decide) ?_
      exact aw_zret dX9_isFetch_20 rfl (by decide) k
    · have k := k.2 hc
      refine aw_iload_n 0 dX9_isFetch_10 rfl rfl ?_
      refine aw_iconst dX9_isFetch_11 ⟨by decide, by decide⟩ ?_
      refine aw_icmp_ne (tgt := 19) dX9_isFetch_12 (by decide) (fun hc => ?_) (fun hc => ?_)
      · have k := k.1 hc
        refine aw_iconst dX9_isFetch_19 ⟨by decide, by decide⟩ ?_
        exact aw_zret dX9_isFetch_20 rfl (by decide) k
      · have k := k.2 hc
        refine aw_iconst dX9_isFetch_15 ⟨by decide, by decide⟩ ?_
        refine aw_goto (tgt := 20) dX9_isFetch_16 (by decide) ?_
        exact aw_zret dX9_isFetch_20 rfl (by decide) k
theorem rn_X9_isFetch {G : GG} {Q : Option VV → Hp → Prop} {v0 : Int} {h : Hp} (k : ((v0 = 2) → Q (some (vI 1)) h) ∧ ((¬ (v0 = 2)) → ((v0 = 3) → Q (some (vI 1)) h) ∧ ((¬ (v0 = 3)) → ((¬ v0 = 4) → Q (some (vI 0)) h) ∧ ((v0 = 4) → Q (some (vI 1)) h)))) : Runs G mm_X9_isFetch [vI v0] h Q := Runs.of (by decide +kernel) (Nat.le_of_ble_eq_true rfl) (sg_X9_isFetch_0 (b := (0, 0)) k)
theorem pu_X9_isFetch {G : GG} {Q : Option VV → Hp → Prop} {v0 : Int} {h : Hp} (k : Q (some (vI (b2i (v0 = 2 ∨ v0 = 3 ∨ v0 = 4)))) h) : Runs G mm_X9_isFetch [vI v0] h Q := by
  first
    | exact rn_X9_isFetch k
    | refine rn_X9_isFetch ?_
      (repeat' (first | (refine ⟨?_, ?_⟩) | intro _))
      all_goals first
        | (rw [b2i_t (by omega)] at k; exact k)
        | (rw [b2i_f (by omega)] at k; exact k)
set_option maxRecDepth 20000 in
theorem sg_X6_isSmall_0 {G : GG} {b : Nat × Nat} {Q : Option VV → Hp → Prop} {v0 : Int} {h : Hp} (k : ((v0 < 97) → Q (some (vI 0)) h) ∧ ((¬ (v0 < 97)) → ((122 < v0) → Q (some (vI 0)) h) ∧ ((¬ (122 < v0)) → Q (some (vI 1)) h))) : AW G mm_X6_isSmall b 0 [(0, vI v0)] [] h Q := by
  refine aw_iload_n 0 dX6_isSmall_0 rfl rfl ?_
  refine aw_bipush dX6_isSmall_1 ⟨by decide, by decide⟩ (by decide) ?_
  refine aw_icmp_lt (tgt := 16) dX6_isSmall_3 (by decide) (fun hc => ?_) (fun hc => ?_)
  · have k := k.1 hc
    refine aw_iconst dX6_isSmall_16 ⟨by decide, by decide⟩ ?_
    exact aw_zret dX6_isSmall_17 rfl (by decide) k
  · have k := k.2 hc
    refine aw_iload_n 0 dX6_isSmall_6 rfl rfl ?_
    refine aw_bipush dX6_isSmall_7 ⟨by decide, by decide⟩ (by decide) ?_
    refine aw_icmp_gt (tgt := 16) dX6_isSmall_9 (by decide) (fun hc => ?_) (fun hc => ?_)
    · have k := k.1 hc
      refine aw_iconst dX6_isSmall_16 ⟨by decide, by decide⟩ ?_
      exact aw_zret dX6_isSmall_17 rfl (by decide) k
    · have k := k.2 hc
      refine aw_iconst dX6_isSmall_12 ⟨by decide, by decide⟩ ?_
      refine aw_goto (tgt := 17) dX6_isSmall_13 (by decide) ?_
      exact aw_zret dX6_isSmall_17 rfl (by decide) k
theorem rn_X6_isSmall {G : GG} {Q : Option VV → Hp → Prop} {v0 : Int} {h : Hp} (k : ((v0 < 97) → Q (some (vI 0)) h) ∧ ((¬ (v0 < 97)) → ((122 < v0) → Q (some (vI 0)) h) ∧ ((¬ (122 < v0)) → Q (some (vI 1)) h))) : Runs G mm_X6_isSmall [vI v0] h Q := Runs.of (by decide +kernel) (Nat.le_of_ble_eq_true rfl) (sg_X6_isSmall_0 (b := (0, 0)) k)
theorem pu_X6_isSmall {G : GG} {Q : Option VV → Hp → Prop} {v0 : Int} {h : Hp} (k : Q (some (vI (b2i (97 ≤ v0 ∧ v0 ≤ 122)))) h) : Runs G mm_X6_isSmall [vI v0] h Q := by
  first
    | exact rn_X6_isSmall k
    | refine rn_X6_isSmall ?_
      (repeat' (first | (refine ⟨?_, ?_⟩) | intro _))
      all_goals first
        | (rw [b2i_t (by omega)] at k; exact k)
        | (rw [b2i_f (by omega)] at k; exact k)
set_option maxRecDepth 20000 in
theorem sg_X6_isDigit_0 {G : GG} {b : Nat × Nat} {Q : Option VV → Hp → Prop} {v0 : Int} {h : Hp} (k : ((v0 < 48) → Q (some (vI 0)) h) ∧ ((¬ (v0 < 48)) → ((57 < v0) → Q (some (vI 0)) h) ∧ ((¬ (57 < v0)) → Q (some (vI 1)) h))) : AW G mm_X6_isDigit b 0 [(0, vI v0)] [] h Q := by
  refine aw_iload_n 0 dX6_isDigit_0 rfl rfl ?_
  refine aw_bipush dX6_isDigit_1 ⟨by decide, by decide⟩ (by decide) ?_
  refine aw_icmp_lt (tgt := 16) dX6_isDigit_3 (by decide) (fun hc => ?_) (fun hc => ?_)
  · have k := k.1 hc
    refine aw_iconst dX6_isDigit_16 ⟨by decide, by decide⟩ ?_
    exact aw_zret dX6_isDigit_17 rfl (by decide) k
  · have k := k.2 hc
    refine aw_iload_n 0 dX6_isDigit_6 rfl rfl ?_
    refine aw_bipush dX6_isDigit_7 ⟨by decide, by decide⟩ (by decide) ?_
    refine aw_icmp_gt (tgt := 16) dX6_isDigit_9 (by decide) (fun hc => ?_) (fun hc => ?_)
    · have k := k.1 hc
      refine aw_iconst dX6_isDigit_16 ⟨by decide, by decide⟩ ?_
      exact aw_zret dX6_isDigit_17 rfl (by decide) k
    · have k := k.2 hc
      refine aw_iconst dX6_isDigit_12 ⟨by decide, by decide⟩ ?_
      refine aw_goto (tgt := 17) dX6_isDigit_13 (by decide) ?_
      exact aw_zret dX6_isDigit_17 rfl (by decide) k
theorem rn_X6_isDigit {G : GG} {Q : Option VV → Hp → Prop} {v0 : Int} {h : Hp} (k : ((v0 < 48) → Q (some (vI 0)) h) ∧ ((¬ (v0 < 48)) → ((57 < v0) → Q (some (vI 0)) h) ∧ ((¬ (57 < v0)) → Q (some (vI 1)) h))) : Runs G mm_X6_isDigit [vI v0] h Q := Runs.of (by decide +kernel) (Nat.le_of_ble_eq_true rfl) (sg_X6_isDigit_0 (b := (0, 0)) k)
theorem pu_X6_isDigit {G : GG} {Q : Option VV → Hp → Prop} {v0 : Int} {h : Hp} (k : Q (some (vI (b2i (48 ≤ v0 ∧ v0 ≤ 57)))) h) : Runs G mm_X6_isDigit [vI v0] h Q := by
  first
    | exact rn_X6_isDigit k
    | refine rn_X6_isDigit ?_
      (repeat' (first | (refine ⟨?_, ?_⟩) | intro _))
      all_goals first
        | (rw [b2i_t (by omega)] at k; exact k)
        | (rw [b2i_f (by omega)] at k; exact k)
set_option maxRecDepth 20000 in
theorem sg_X10_in_0 {G : GG} {b : Nat × Nat} {Q : Option VV → Hp → Prop} {v0 v2 v4 : Int} {h : Hp} (k : (((iCmp v0 v2) < 0) → Q (some (vI 0)) h) ∧ ((¬ ((iCmp v0 v2) < 0)) → ((0 < (iCmp v0 v4)) → Q (some (vI 0)) h) ∧ ((¬ (0 < (iCmp v0 v4))) → Q (some (vI 1)) h))) : AW G mm_X10_in b 0 [(0, vL v0), (2, vL v2), (4, vL v4)] [] h Q := by
  refine aw_lload_n 0 dX10_in_0 rfl rfl ?_
  refine aw_lload_n 1 dX10_in_1 rfl rfl ?_
  refine aw_lcmp dX10_in_2 ?_
  refine aw_if_lt (tgt := 17) dX10_in_3 (by decide) (fun hc => ?_) (fun hc => ?_)
  · have k := k.1 hc
    refine aw_iconst dX10_in_17 ⟨by decide, by decide⟩ ?_
    exact aw_zret dX10_in_18 rfl (by decide) k
  · have k := k.2 hc
    refine aw_lload_n 0 dX10_in_6 rfl rfl ?_
    refine aw_lload 2 dX10_in_7 rfl ?_
    refine aw_lcmp dX10_in_9 ?_
    refine aw_if_gt (tgt := 17) dX10_in_10 (by decide) (fun hc => ?_) (fun hc => ?_)
    · have k := k.1 hc
      refine aw_iconst dX10_in_17 ⟨by decide, by decide⟩ ?_
      exact aw_zret dX10_in_18 rfl (by decide) k
    · have k := k.2 hc
      refine aw_iconst dX10_in_13 ⟨by decide, by decide⟩ ?_
      refine aw_goto (tgt := 18) dX10_in_14 (by decide) ?_
      exact aw_zret dX10_in_18 rfl (by decide) k
theorem rn_X10_in {G : GG} {Q : Option VV → Hp → Prop} {v0 v2 v4 : Int} {h : Hp} (k : (((iCmp v0 v2) < 0) → Q (some (vI 0)) h) ∧ ((¬ ((iCmp v0 v2) < 0)) → ((0 < (iCmp v0 v4)) → Q (some (vI 0)) h) ∧ ((¬ (0 < (iCmp v0 v4))) → Q (some (vI 1)) h))) : Runs G mm_X10_in [vL v0, vL v2, vL v4] h Q := Runs.of (by decide +kernel) (Nat.le_of_ble_eq_true rfl) (sg_X10_in_0 (b := (0, 0)) k)
theorem pu_X10_in {G : GG} {Q : Option VV → Hp → Prop} {v0 v2 v4 : Int} {h : Hp} (k : Q (some (vI (b2i (v2 ≤ v0 ∧ v0 ≤ v4)))) h) : Runs G mm_X10_in [vL v0, vL v2, vL v4] h Q := by
  refine rn_X10_in ?_
  (repeat' (first | (refine ⟨?_, ?_⟩) | (intro hc; unfold iCmp at hc)))
  all_goals (repeat' split at *)
  all_goals first
    | (rw [b2i_t (by omega)] at k; exact k)
    | (rw [b2i_f (by omega)] at k; exact k)
    | omega
set_option maxRecDepth 20000 in
theorem sg_X10_isHost_0 {G : GG} {b : Nat × Nat} {Q : Option VV → Hp → Prop} {v0 : Int} {h : Hp} (k : Q (some (vI (b2i (0 ≤ v0 ∧ v0 ≤ 1)))) h) : AW G mm_X10_isHost b 0 [(0, vI v0)] [] h Q := by
  refine aw_iload_n 0 dX10_isHost_0 rfl rfl ?_
  refine aw_i2l dX10_isHost_1 ?_
  refine aw_lconst (x := 0) dX10_isHost_2 ⟨by decide, by decide⟩ (by decide) ?_
  refine aw_lconst (x := 1) dX10_isHost_3 ⟨by decide, by decide⟩ (by decide) ?_
  refine aw_callS (M' := mm_X10_in) [vL v0, vL 0, vL 1] [] lk_X10_95 dX10_isHost_4 rfl (by decide) ⟨by decide, by decide, Nat.zero_le _, Nat.zero_le _⟩ ?_
  refine pu_X10_in ?_
  exact aw_zret dX10_isHost_7 rfl b2i_or k
theorem rn_X10_isHost {G : GG} {Q : Option VV → Hp → Prop} {v0 : Int} {h : Hp} (k : Q (some (vI (b2i (0 ≤ v0 ∧ v0 ≤ 1)))) h) : Runs G mm_X10_isHost [vI v0] h Q := Runs.of (by decide +kernel) (Nat.le_of_ble_eq_true rfl) (sg_X10_isHost_0 (b := (0, 0)) k)
theorem pu_X10_isHost {G : GG} {Q : Option VV → Hp → Prop} {v0 : Int} {h : Hp} (k : Q (some (vI (b2i (0 ≤ v0 ∧ v0 ≤ 1)))) h) : Runs G mm_X10_isHost [vI v0] h Q := by
  first
    | exact rn_X10_isHost k
    | refine rn_X10_isHost ?_
      (repeat' (first | (refine ⟨?_, ?_⟩) | intro _))
      all_goals first
        | (rw [b2i_t (by omega)] at k; exact k)
        | (rw [b2i_f (by omega)] at k; exact k)
set_option maxRecDepth 20000 in
theorem sg_X10_isCell_0 {G : GG} {b : Nat × Nat} {Q : Option VV → Hp → Prop} {v0 : Int} {h : Hp} (k : Q (some (vI (b2i (0 ≤ v0 ∧ v0 ≤ 11)))) h) : AW G mm_X10_isCell b 0 [(0, vI v0)] [] h Q := by
  refine aw_iload_n 0 dX10_isCell_0 rfl rfl ?_
  refine aw_i2l dX10_isCell_1 ?_
  refine aw_lconst (x := 0) dX10_isCell_2 ⟨by decide, by decide⟩ (by decide) ?_
  refine aw_ldc2 (x := 11) dX10_isCell_3 ⟨by decide, by decide⟩ cl_X10_99 ?_
  refine aw_callS (M' := mm_X10_in) [vL v0, vL 0, vL 11] [] lk_X10_95 dX10_isCell_6 rfl (by decide) ⟨by decide, by decide, Nat.zero_le _, Nat.zero_le _⟩ ?_
  refine pu_X10_in ?_
  exact aw_zret dX10_isCell_9 rfl b2i_or k
theorem rn_X10_isCell {G : GG} {Q : Option VV → Hp → Prop} {v0 : Int} {h : Hp} (k : Q (some (vI (b2i (0 ≤ v0 ∧ v0 ≤ 11)))) h) : Runs G mm_X10_isCell [vI v0] h Q := Runs.of (by decide +kernel) (Nat.le_of_ble_eq_true rfl) (sg_X10_isCell_0 (b := (0, 0)) k)
theorem pu_X10_isCell {G : GG} {Q : Option VV → Hp → Prop} {v0 : Int} {h : Hp} (k : Q (some (vI (b2i (0 ≤ v0 ∧ v0 ≤ 11)))) h) : Runs G mm_X10_isCell [vI v0] h Q := by
  first
    | exact rn_X10_isCell k
    | refine rn_X10_isCell ?_
      (repeat' (first | (refine ⟨?_, ?_⟩) | intro _))
      all_goals first
        | (rw [b2i_t (by omega)] at k; exact k)
        | (rw [b2i_f (by omega)] at k; exact k)
set_option maxRecDepth 20000 in
theorem sg_X10_isEnd_0 {G : GG} {b : Nat × Nat} {Q : Option VV → Hp → Prop} {v0 : Int} {h : Hp} (k : Q (some (vI (b2i (0 ≤ v0 ∧ v0 ≤ 3)))) h) : AW G mm_X10_isEnd b 0 [(0, vI v0)] [] h Q := by
  refine aw_iload_n 0 dX10_isEnd_0 rfl rfl ?_
  refine aw_i2l dX10_isEnd_1 ?_
  refine aw_lconst (x := 0) dX10_isEnd_2 ⟨by decide, by decide⟩ (by decide) ?_
  refine aw_ldc2 (x := 3) dX10_isEnd_3 ⟨by decide, by decide⟩ cl_X10_101 ?_
  refine aw_callS (M' := mm_X10_in) [vL v0, vL 0, vL 3] [] lk_X10_95 dX10_isEnd_6 rfl (by decide) ⟨by decide, by decide, Nat.zero_le _, Nat.zero_le _⟩ ?_
  refine pu_X10_in ?_
  exact aw_zret dX10_isEnd_9 rfl b2i_or k
theorem rn_X10_isEnd {G : GG} {Q : Option VV → Hp → Prop} {v0 : Int} {h : Hp} (k : Q (some (vI (b2i (0 ≤ v0 ∧ v0 ≤ 3)))) h) : Runs G mm_X10_isEnd [vI v0] h Q := Runs.of (by decide +kernel) (Nat.le_of_ble_eq_true rfl) (sg_X10_isEnd_0 (b := (0, 0)) k)
theorem pu_X10_isEnd {G : GG} {Q : Option VV → Hp → Prop} {v0 : Int} {h : Hp} (k : Q (some (vI (b2i (0 ≤ v0 ∧ v0 ≤ 3)))) h) : Runs G mm_X10_isEnd [vI v0] h Q := by
  first
    | exact rn_X10_isEnd k
    | refine rn_X10_isEnd ?_
      (repeat' (first | (refine ⟨?_, ?_⟩) | intro _))
      all_goals first
        | (rw [b2i_t (by omega)] at k; exact k)
        | (rw [b2i_f (by omega)] at k; exact k)
set_option maxRecDepth 20000 in
theorem sg_X10_isNumber_0 {G : GG} {b : Nat × Nat} {Q : Option VV → Hp → Prop} {v0 : Int} {h : Hp} (k : Q (some (vI (b2i (0 ≤ v0 ∧ v0 ≤ 9999)))) h) : AW G mm_X10_isNumber b 0 [(0, vI v0)] [] h Q := by
  refine aw_iload_n 0 dX10_isNumber_0 rfl rfl ?_
  refine aw_i2l dX10_isNumber_1 ?_
  refine aw_lconst (x := 0) dX10_isNumber_2 ⟨by decide, by decide⟩ (by decide) ?_
  refine aw_ldc2 (x := 9999) dX10_isNumber_3 ⟨by decide, by decide⟩ cl_X10_103 ?_
  refine aw_callS (M' := mm_X10_in) [vL v0, vL 0, vL 9999] [] lk_X10_95 dX10_isNumber_6 rfl (by decide) ⟨by decide, by decide, Nat.zero_le _, Nat.zero_le _⟩ ?_
  refine pu_X10_in ?_
  exact aw_zret dX10_isNumber_9 rfl b2i_or k
theorem rn_X10_isNumber {G : GG} {Q : Option VV → Hp → Prop} {v0 : Int} {h : Hp} (k : Q (some (vI (b2i (0 ≤ v0 ∧ v0 ≤ 9999)))) h) : Runs G mm_X10_isNumber [vI v0] h Q := Runs.of (by decide +kernel) (Nat.le_of_ble_eq_true rfl) (sg_X10_isNumber_0 (b := (0, 0)) k)
theorem pu_X10_isNumber {G : GG} {Q : Option VV → Hp → Prop} {v0 : Int} {h : Hp} (k : Q (some (vI (b2i (0 ≤ v0 ∧ v0 ≤ 9999)))) h) : Runs G mm_X10_isNumber [vI v0] h Q := by
  first
    | exact rn_X10_isNumber k
    | refine rn_X10_isNumber ?_
      (repeat' (first | (refine ⟨?_, ?_⟩) | intro _))
      all_goals first
        | (rw [b2i_t (by omega)] at k; exact k)
        | (rw [b2i_f (by omega)] at k; exact k)
set_option maxRecDepth 20000 in
theorem sg_X10_isSmall_0 {G : GG} {b : Nat × Nat} {Q : Option VV → Hp → Prop} {v0 : Int} {h : Hp} (k : Q (some (vI (b2i (97 ≤ v0 ∧ v0 ≤ 122)))) h) : AW G mm_X10_isSmall b 0 [(0, vI v0)] [] h Q := by
  refine aw_iload_n 0 dX10_isSmall_0 rfl rfl ?_
  refine aw_i2l dX10_isSmall_1 ?_
  refine aw_ldc2 (x := 97) dX10_isSmall_2 ⟨by decide, by decide⟩ cl_X10_131 ?_
  refine aw_ldc2 (x := 122) dX10_isSmall_5 ⟨by decide, by decide⟩ cl_X10_133 ?_
  refine aw_callS (M' := mm_X10_in) [vL v0, vL 97, vL 122] [] lk_X10_95 dX10_isSmall_8 rfl (by decide) ⟨by decide, by decide, Nat.zero_le _, Nat.zero_le _⟩ ?_
  refine pu_X10_in ?_
  exact aw_zret dX10_isSmall_11 rfl b2i_or k
theorem rn_X10_isSmall {G : GG} {Q : Option VV → Hp → Prop} {v0 : Int} {h : Hp} (k : Q (some (vI (b2i (97 ≤ v0 ∧ v0 ≤ 122)))) h) : Runs G mm_X10_isSmall [vI v0] h Q := Runs.of (by decide +kernel) (Nat.le_of_ble_eq_true rfl) (sg_X10_isSmall_0 (b := (0, 0)) k)
theorem pu_X10_isSmall {G : GG} {Q : Option VV → Hp → Prop} {v0 : Int} {h : Hp} (k : Q (some (vI (b2i (97 ≤ v0 ∧ v0 ≤ 122)))) h) : Runs G mm_X10_isSmall [vI v0] h Q := by
  first
    | exact rn_X10_isSmall k
    | refine rn_X10_isSmall ?_
      (repeat' (first | (refine ⟨?_, ?_⟩) | intro _))
      all_goals first
        | (rw [b2i_t (by omega)] at k; exact k)
        | (rw [b2i_f (by omega)] at k; exact k)
set_option maxRecDepth 20000 in
theorem sg_X10_isDigit_0 {G : GG} {b : Nat × Nat} {Q : Option VV → Hp → Prop} {v0 : Int} {h : Hp} (k : Q (some (vI (b2i (48 ≤ v0 ∧ v0 ≤ 57)))) h) : AW G mm_X10_isDigit b 0 [(0, vI v0)] [] h Q := by
  refine aw_iload_n 0 dX10_isDigit_0 rfl rfl ?_
  refine aw_i2l dX10_isDigit_1 ?_
  refine aw_ldc2 (x := 48) dX10_isDigit_2 ⟨by decide, by decide⟩ cl_X10_135 ?_
  refine aw_ldc2 (x := 57) dX10_isDigit_5 ⟨by decide, by decide⟩ cl_X10_137 ?_
  refine aw_callS (M' := mm_X10_in) [vL v0, vL 48, vL 57] [] lk_X10_95 dX10_isDigit_8 rfl (by decide) ⟨by decide, by decide, Nat.zero_le _, Nat.zero_le _⟩ ?_
  refine pu_X10_in ?_
  exact aw_zret dX10_isDigit_11 rfl b2i_or k
theorem rn_X10_isDigit {G : GG} {Q : Option VV → Hp → Prop} {v0 : Int} {h : Hp} (k : Q (some (vI (b2i (48 ≤ v0 ∧ v0 ≤ 57)))) h) : Runs G mm_X10_isDigit [vI v0] h Q := Runs.of (by decide +kernel) (Nat.le_of_ble_eq_true rfl) (sg_X10_isDigit_0 (b := (0, 0)) k)
theorem pu_X10_isDigit {G : GG} {Q : Option VV → Hp → Prop} {v0 : Int} {h : Hp} (k : Q (some (vI (b2i (48 ≤ v0 ∧ v0 ≤ 57)))) h) : Runs G mm_X10_isDigit [vI v0] h Q := by
  first
    | exact rn_X10_isDigit k
    | refine rn_X10_isDigit ?_
      (repeat' (first | (refine ⟨?_, ?_⟩) | intro _))
      all_goals first
        | (rw [b2i_t (by omega)] at k; exact k)
        | (rw [b2i_f (by omega)] at k; exact k)
