/-! printed by writeseg.py: segments of methods -/
set_option maxRecDepth 20000 in
theorem sg_X10_step_0 {G : GG} {b : Nat × Nat} {Q : Option VV → Hp → Prop} {v0 v1 : Int} {h : Hp} (k : ((0 ≤ v1 ∧ v1 ≤ 2) → (h v0 (-1) = 11) ∧ ((¬ (h v0 21) = 0) → Runs G mm_X10_firstPacket [vR v0] h (fun r h' => AW G mm_X10_step b 31 [(0, vR v0), (1, vI v1)] (r.toList ++ []) h' Q)) ∧ (((h v0 21) = 0) → Q (some (vI (-1003))) h)) ∧ ((¬ (0 ≤ v1 ∧ v1 ≤ 2)) → Q (some (vI (-1002))) h)) : AW G mm_X10_step b 0 [(0, vR v0), (1, vI v1)] [] h Q := by
  refine aw_iload_n 1 dX10_step_0 rfl rfl ?_
  refine aw_i2l dX10_step_1 ?_
  refine aw_lconst (x := 0) dX10_step_2 ⟨by decide, by decide⟩ (by decide) ?_
  refine aw_ldc2 (x := 2) dX10_step_3 ⟨by decide, by decide⟩ cl_X10_209 ?_
  refine aw_callS (M' := mm_X10_in) [vL v1, vL 0, vL 2] [] lk_X10_95 dX10_step_6 rfl (Nat.le_of_ble_eq_true rfl) ⟨by decide, by decide, Nat.zero_le _, Nat.zero_le _⟩ ?_
  refine pu_X10_in ?_
  refine aw_if_ne (tgt := 16) dX10_step_9 (by decide) (fun hc => ?_) (fun hc => ?_)
  · have k := k.1 (b2i_n.mp hc)
    refine aw_aload_n 0 dX10_step_16 rfl rfl ?_
    obtain ⟨o1, k⟩ := k
    refine aw_getI dX10_step_17 fl_X10_113 rfl o1 (x := (h v0 21)) rfl ?_
    refine aw_if_ne (tgt := 27) dX10_step_20 (by decide) (fun hc => ?_) (fun hc => ?_)
    · have k := k.1 hc
      refine aw_aload_n 0 dX10_step_27 rfl rfl ?_
      refine aw_callV (M' := mm_X10_firstPacket) 10 [] [] lk_X10_231 ⟨_, rfl, rfl⟩ dX10_step_28 rfl (Nat.le_of_ble_eq_true rfl) ⟨by decide, by decide, Nat.zero_le _, Nat.zero_le _⟩ o1 ?_
      exact k
    · have k := k.2 hc
      refine aw_sipush dX10_step_23 ⟨by decide, by decide⟩ (by decide) ?_
      exact aw_iret dX10_step_26 rfl k
  · have k := k.2 (b2i_0.mp hc)
    refine aw_sipush dX10_step_12 ⟨by decide, by decide⟩ (by decide) ?_
    exact aw_iret dX10_step_15 rfl k
theorem rn_X10_step {G : GG} {Q : Option VV → Hp → Prop} {v0 v1 : Int} {h : Hp} (k : ((0 ≤ v1 ∧ v1 ≤ 2) → (h v0 (-1) = 11) ∧ ((¬ (h v0 21) = 0) → Runs G mm_X10_firstPacket [vR v0] h (fun r h' => AW G mm_X10_step (0, 0) 31 [(0, vR v0), (1, vI v1)] (r.toList ++ []) h' Q)) ∧ (((h v0 21) = 0) → Q (some (vI (-1003))) h)) ∧ ((¬ (0 ≤ v1 ∧ v1 ≤ 2)) → Q (some (vI (-1002))) h)) : Runs G mm_X10_step [vR v0, vI v1] h Q := Runs.of (by decide +kernel) (Nat.le_of_ble_eq_true rfl) (sg_X10_step_0 (b := (0, 0)) k)
set_option maxRecDepth 20000 in
theorem sg_X10_step_31 {G : GG} {b : Nat × Nat} {Q : Option VV → Hp → Prop} {v0 v1 s0 : Int} {h : Hp} (k : AW G mm_X10_step b 34 [(0, vR v0), (1, vI v1), (2, vI s0), (3, vI 0)] [] h Q) : AW G mm_X10_step b 31 [(0, vR v0), (1, vI v1)] [vI s0] h Q := by
  refine aw_istore_n dX10_step_31 rfl (by decide) ?_
  refine aw_iconst dX10_step_32 ⟨by decide, by decide⟩ ?_
  refine aw_istore_n dX10_step_33 rfl (by decide) ?_
  exact aw_sub [2, 3, 1, 0] rfl k
set_option maxRecDepth 20000 in
theorem sg_X10_step_34 {G : GG} {b : Nat × Nat} {Q : Option VV → Hp → Prop} {v0 v1 v2 v3 : Int} {h : Hp} (k : ((11 ≤ v3) → (h v0 (-1) = 11) ∧ (inI ((h v0 21) - 1)) ∧ ∀ h1, h1 = wr h v0 21 ((h v0 21) - 1) → AW G mm_X10_step b 75 [(0, vR v0), (1, vI v1), (3, vI v2)] [] h1 Q) ∧ ((¬ (11 ≤ v3)) → (h v0 (-1) = 11) ∧ (inI (11 * v2)) ∧ (inI ((11 * v2) + v3)) ∧ (h (h v0 20) (-1) = 20) ∧ (0 ≤ ((11 * v2) + v3)) ∧ (((11 * v2) + v3) < h (h v0 20) (-2)) ∧ (h (h v0 38) (-1) = 20) ∧ (0 ≤ v3) ∧ (v3 < h (h v0 38) (-2)) ∧ ∀ h1, h1 = wr h (h v0 38) v3 (h (h v0 20) ((11 * v2) + v3)) → (inI (v3 + 1)) ∧ AW G mm_X10_step b 34 [(0, vR v0), (1, vI v1), (2, vI v2), (3, vI (v3 + 1))] [] h1 Q)) : AW G mm_X10_step b 34 [(0, vR v0), (1, vI v1), (2, vI v2), (3, vI v3)] [] h Q := by
  refine aw_iload_n 3 dX10_step_34 rfl rfl ?_
  refine aw_bipush dX10_step_35 ⟨by decide, by decide⟩ (by decide) ?_
  refine aw_icmp_ge (tgt := 63) dX10_step_37 (by decide) (fun hc => ?_) (fun hc => ?_)
  · have k := k.1 hc
    refine aw_aload_n 0 dX10_step_63 rfl rfl ?_
    refine aw_dup dX10_step_64 rfl ?_
    obtain ⟨o1, k⟩ := k
    refine aw_getI dX10_step_65 fl_X10_113 rfl o1 (x := (h v0 21)) rfl ?_
    refine aw_iconst dX10_step_68 ⟨by decide, by decide⟩ ?_
    obtain ⟨o2, k⟩ := k
    refine aw_isub dX10_step_69 o2 ?_
    refine aw_putI dX10_step_70 fl_X10_113 (fun q hq hf => by cases hq; cases hf) rfl rfl o1 ?_
    refine aw_hp (fun h1 e3 => ?_)
    have k := k h1 e3
    refine aw_iload_n 2 dX10_step_73 rfl rfl ?_
    refine aw_istore_n dX10_step_74 rfl (by decide) ?_
    exact aw_sub [1, 2, 0] rfl k
  · have k := k.2 hc
    refine aw_aload_n 0 dX10_step_40 rfl rfl ?_
    obtain ⟨o4, k⟩ := k
    refine aw_getR dX10_step_41 fl_X10_92 rfl o4 (x := (h v0 38)) rfl ?_
    refine aw_iload_n 3 dX10_step_44 rfl rfl ?_
    refine aw_aload_n 0 dX10_step_45 rfl rfl ?_
    refine aw_getR dX10_step_46 fl_X10_68 rfl o4 (x := (h v0 20)) rfl ?_
    refine aw_bipush dX10_step_49 ⟨by decide, by decide⟩ (by decide) ?_
    refine aw_iload_n 2 dX10_step_51 rfl rfl ?_
    obtain ⟨o5, k⟩ := k
    refine aw_imul dX10_step_52 o5 ?_
    refine aw_iload_n 3 dX10_step_53 rfl rfl ?_
    obtain ⟨o6, k⟩ := k
    refine aw_iadd dX10_step_54 o6 ?_
    obtain ⟨o7, k⟩ := k
    obtain ⟨o8, k⟩ := k
    obtain ⟨o9, k⟩ := k
    refine aw_iald dX10_step_55 o7 o8 o9 (x := (h (h v0 20) ((11 * v2) + v3))) rfl ?_
    obtain ⟨o10, k⟩ := k
    obtain ⟨o11, k⟩ := k
    obtain ⟨o12, k⟩ := k
    refine aw_iast dX10_step_56 o10 o11 o12 ?_
    refine aw_hp (fun h1 e13 => ?_)
    have k := k h1 e13
    obtain ⟨o14, k⟩ := k
    refine aw_iinc 3 dX10_step_57 rfl o14 (by decide) ?_
    refine aw_goto (tgt := 34) dX10_step_60 (by decide) ?_
    exact aw_sub [1, 2, 3, 0] rfl k
set_option maxRecDepth 20000 in
theorem sg_X10_step_75 {G : GG} {b : Nat × Nat} {Q : Option VV → Hp → Prop} {v0 v1 v3 : Int} {h : Hp} (k : (h v0 (-1) = 11) ∧ (((h v0 21) ≤ v3) → ((¬ v1 = 1) → (h (h v0 38) (-1) = 20) ∧ (9 < h (h v0 38) (-2)) ∧ (((h (h v0 38) 9) ≤ (h v0 19)) → ∀ h1, h1 = wr h v0 19 (h v0 19) → ((¬ v1 = 2) → (0 < h (h v0 38) (-2)) ∧ (h (h v0 4) (-1) = 20) ∧ (0 ≤ (h (h v0 38) 0)) ∧ ((h (h v0 38) 0) < h (h v0 4) (-2)) ∧ ((¬ (h (h v0 4) (h (h v0 38) 0)) = 1) → Q (some (vI (h (h v0 38) 0))) h1) ∧ (((h (h v0 4) (h (h v0 38) 0)) = 1) → (1 < h (h v0 38) (-2)) ∧ ((¬ (h (h v0 38) 1) = 0) → (2 < h (h v0 38) (-2)) ∧ Runs G mm_X10_answered [vR v0, vI (h (h v0 38) 0), vI (h (h v0 38) 2), vI (h (h v0 38) 1)] h1 (fun r h' => AW G mm_X10_step b 325 [(3, vI (h (h v0 38) 0))] (r.toList ++ []) h' Q)) ∧ (((h (h v0 38) 1) = 0) → (2 < h (h v0 38) (-2)) ∧ (3 < h (h v0 38) (-2)) ∧ Runs G mm_X10_requested [vR v0, vI (h (h v0 38) 0), vI (h (h v0 38) 2), vI (h (h v0 38) 3)] h1 (fun r h' => AW G mm_X10_step b 305 [(3, vI (h (h v0 38) 0))] (r.toList ++ []) h' Q)))) ∧ ((v1 = 2) → AW G mm_X10_step b 158 [(0, vR v0), (3, vI 0)] [] h1 Q)) ∧ ((¬ ((h (h v0 38) 9) ≤ (h v0 19))) → ∀ h1, h1 = wr h v0 19 (h (h v0 38) 9) → ((¬ v1 = 2) → (0 < h (h v0 38) (-2)) ∧ (h (h v0 4) (-1) = 20) ∧ (0 ≤ (h (h v0 38) 0)) ∧ ((h (h v0 38) 0) < h (h v0 4) (-2)) ∧ ((¬ (h (h v0 4) (h (h v0 38) 0)) = 1) → Q (some (vI (h (h v0 38) 0))) h1) ∧ (((h (h v0 4) (h (h v0 38) 0)) = 1) → (1 < h (h v0 38) (-2)) ∧ ((¬ (h (h v0 38) 1) = 0) → (2 < h (h v0 38) (-2)) ∧ Runs G mm_X10_answered [vR v0, vI (h (h v0 38) 0), vI (h (h v0 38) 2), vI (h (h v0 38) 1)] h1 (fun r h' => AW G mm_X10_step b 325 [(3, vI (h (h v0 38) 0))] (r.toList ++ []) h' Q)) ∧ (((h (h v0 38) 1) = 0) → (2 < h (h v0 38) (-2)) ∧ (3 < h (h v0 38) (-2)) ∧ Runs G mm_X10_requested [vR v0, vI (h (h v0 38) 0), vI (h (h v0 38) 2), vI (h (h v0 38) 3)] h1 (fun r h' => AW G mm_X10_step b 305 [(3, vI (h (h v0 38) 0))] (r.toList ++ []) h' Q)))) ∧ ((v1 = 2) → AW G mm_X10_step b 158 [(0, vR v0), (3, vI 0)] [] h1 Q))) ∧ ((v1 = 1) → (inI ((h v0 29) + 1)) ∧ ∀ h1, h1 = wr h v0 29 ((h v0 29) + 1) → (h (h v0 38) (-1) = 20) ∧ (0 < h (h v0 38) (-2)) ∧ Q (some (vI (h (h v0 38) 0))) h1)) ∧ ((¬ ((h v0 21) ≤ v3)) → (inI (v3 + 1)) ∧ Runs G mm_X10_copyPacket [vR v0, vI (v3 + 1), vI v3] h (fun r h' => AW G mm_X10_step b 91 [(0, vR v0), (1, vI v1), (3, vI v3)] (r.toList ++ []) h' Q))) : AW G mm_X10_step b 75 [(0, vR v0), (1, vI v1), (3, vI v3)] [] h Q := by
  refine aw_iload_n 2 dX10_step_75 rfl rfl ?_
  refine aw_aload_n 0 dX10_step_76 rfl rfl ?_
  obtain ⟨o1, k⟩ := k
  refine aw_getI dX10_step_77 fl_X10_113 rfl o1 (x := (h v0 21)) rfl ?_
  refine aw_icmp_ge (tgt := 97) dX10_step_80 (by decide) (fun hc => ?_) (fun hc => ?_)
  · have k := k.1 hc
    refine aw_iload_n 1 dX10_step_97 rfl rfl ?_
    refine aw_iconst dX10_step_98 ⟨by decide, by decide⟩ ?_
    refine aw_icmp_ne (tgt := 119) dX10_step_99 (by decide) (fun hc => ?_) (fun hc => ?_)
    · have k := k.1 hc
      refine aw_aload_n 0 dX10_step_119 rfl rfl ?_
      refine aw_aload_n 0 dX10_step_120 rfl rfl ?_
      refine aw_getR dX10_step_121 fl_X10_92 rfl o1 (x := (h v0 38)) rfl ?_
      refine aw_bipush dX10_step_124 ⟨by decide, by decide⟩ (by decide) ?_
      obtain ⟨o2, k⟩ := k
      obtain ⟨o3, k⟩ := k
      refine aw_iald dX10_step_126 o2 (by decide) o3 (x := (h (h v0 38) 9)) rfl ?_
      refine aw_aload_n 0 dX10_step_127 rfl rfl ?_
      refine aw_getI dX10_step_128 fl_X10_109 rfl o1 (x := (h v0 19)) rfl ?_
      refine aw_icmp_le (tgt := 144) dX10_step_131 (by decide) (fun hc => ?_) (fun hc => ?_)
      · have k := k.1 hc
        refine aw_aload_n 0 dX10_step_144 rfl rfl ?_
        refine aw_getI dX10_step_145 fl_X10_109 rfl o1 (x := (h v0 19)) rfl ?_
        refine aw_putI dX10_step_148 fl_X10_109 (fun q hq hf => by cases hq; cases hf) rfl rfl o1 ?_
        refine aw_hp (fun h1 e4 => ?_)
        have k := k h1 e4
        refine aw_iload_n 1 dX10_step_151 rfl rfl ?_
        refine aw_iconst dX10_step_152 ⟨by decide, by decide⟩ ?_
        refine aw_icmp_ne (tgt := 262) dX10_step_153 (by decide) (fun hc => ?_) (fun hc => ?_)
        · have k := k.1 hc
          refine aw_aload_n 0 dX10_step_262 rfl rfl ?_
          have q5 := sh_w e4 (by decide) o1
          refine aw_getR dX10_step_263 fl_X10_92 rfl q5 (x := (h v0 38)) (rd_k e4 38 (by decide)) ?_
          refine aw_iconst dX10_step_266 ⟨by decide, by decide⟩ ?_
          obtain ⟨o6, k⟩ := k
          have q7 := sh_w e4 (by decide) o2
          refine aw_iald dX10_step_267 q7 (by decide) (lt_l (ln_w e4 (h v0 38) (by decide)) o6) (x := (h (h v0 38) 0)) (rd_a e4 (h v0 38) 0 (ne_sh o1 o2 (by decide))) ?_
          refine aw_istore_n dX10_step_268 rfl (by decide) ?_
          refine aw_aload_n 1 dX10_step_269 rfl rfl ?_
          refine aw_getR dX10_step_270 fl_X10_22 rfl q5 (x := (h v0 4)) (rd_k e4 4 (by decide)) ?_
          refine aw_iload_n 0 dX10_step_273 rfl rfl ?_
          obtain ⟨o8, k⟩ := k
          obtain ⟨o9, k⟩ := k
          obtain ⟨o10, k⟩ := k
          have q11 := sh_w e4 (by decide) o8
          refine aw_iald dX10_step_274 q11 o9 (lt_l (ln_w e4 (h v0 4) (by decide)) o10) (x := (h (h v0 4) (h (h v0 38) 0))) (rd_a e4 (h v0 4) (h (h v0 38) 0) (ne_sh o1 o8 (by decide))) ?_
          refine aw_iconst dX10_step_275 ⟨by decide, by decide⟩ ?_
          refine aw_icmp_ne (tgt := 325) dX10_step_276 (by decide) (fun hc => ?_) (fun hc => ?_)
          · have k := k.1 hc
            refine aw_iload_n 0 dX10_step_325 rfl rfl ?_
            exact aw_iret dX10_step_326 rfl k
          · have k := k.2 hc
            refine aw_aload_n 1 dX10_step_279 rfl rfl ?_
            refine aw_getR dX10_step_280 fl_X10_92 rfl q5 (x := (h v0 38)) (rd_k e4 38 (by decide)) ?_
            refine aw_iconst dX10_step_283 ⟨by decide, by decide⟩ ?_
            obtain ⟨o12, k⟩ := k
            refine aw_iald dX10_step_284 q7 (by decide) (lt_l (ln_w e4 (h v0 38) (by decide)) o12) (x := (h (h v0 38) 1)) (rd_a e4 (h v0 38) 1 (ne_sh o1 o2 (by decide))) ?_
            refine aw_if_ne (tgt := 308) dX10_step_285 (by decide) (fun hc => ?_) (fun hc => ?_)
            · have k := k.1 hc
              refine aw_aload_n 1 dX10_step_308 rfl rfl ?_
              refine aw_iload_n 0 dX10_step_309 rfl rfl ?_
              refine aw_aload_n 1 dX10_step_310 rfl rfl ?_
              refine aw_getR dX10_step_311 fl_X10_92 rfl q5 (x := (h v0 38)) (rd_k e4 38 (by decide)) ?_
              refine aw_iconst dX10_step_314 ⟨by decide, by decide⟩ ?_
              obtain ⟨o13, k⟩ := k
              refine aw_iald dX10_step_315 q7 (by decide) (lt_l (ln_w e4 (h v0 38) (by decide)) o13) (x := (h (h v0 38) 2)) (rd_a e4 (h v0 38) 2 (ne_sh o1 o2 (by decide))) ?_
              refine aw_aload_n 1 dX10_step_316 rfl rfl ?_
              refine aw_getR dX10_step_317 fl_X10_92 rfl q5 (x := (h v0 38)) (rd_k e4 38 (by decide)) ?_
              refine aw_iconst dX10_step_320 ⟨by decide, by decide⟩ ?_
              refine aw_iald dX10_step_321 q7 (by decide) (lt_l (ln_w e4 (h v0 38) (by decide)) o12) (x := (h (h v0 38) 1)) (rd_a e4 (h v0 38) 1 (ne_sh o1 o2 (by decide))) ?_
              refine aw_callV (M' := mm_X10_answered) 10 [vI (h (h v0 38) 0), vI (h (h v0 38) 2), vI (h (h v0 38) 1)] [] lk_X10_238 ⟨_, rfl, rfl⟩ dX10_step_322 rfl (Nat.le_of_ble_eq_true rfl) ⟨by decide, by decide, Nat.zero_le _, Nat.zero_le _⟩ q5 ?_
              exact k.mono (fun _ _ z => aw_sub [0] rfl z)
            · have k := k.2 hc
              refine aw_aload_n 1 dX10_step_288 rfl rfl ?_
              refine aw_iload_n 0 dX10_step_289 rfl rfl ?_
              refine aw_aload_n 1 dX10_step_290 rfl rfl ?_
              refine aw_getR dX10_step_291 fl_X10_92 rfl q5 (x := (h v0 38)) (rd_k e4 38 (by decide)) ?_
              refine aw_iconst dX10_step_294 ⟨by decide, by decide⟩ ?_
              obtain ⟨o14, k⟩ := k
              refine aw_iald dX10_step_295 q7 (by decide) (lt_l (ln_w e4 (h v0 38) (by decide)) o14) (x := (h (h v0 38) 2)) (rd_a e4 (h v0 38) 2 (ne_sh o1 o2 (by decide))) ?_
              refine aw_aload_n 1 dX10_step_296 rfl rfl ?_
              refine aw_getR dX10_step_297 fl_X10_92 rfl q5 (x := (h v0 38)) (rd_k e4 38 (by decide)) ?_
              refine aw_iconst dX10_step_300 ⟨by decide, by decide⟩ ?_
              obtain ⟨o15, k⟩ := k
              refine aw_iald dX10_step_301 q7 (by decide) (lt_l (ln_w e4 (h v0 38) (by decide)) o15) (x := (h (h v0 38) 3)) (rd_a e4 (h v0 38) 3 (ne_sh o1 o2 (by decide))) ?_
              refine aw_callV (M' := mm_X10_requested) 10 [vI (h (h v0 38) 0), vI (h (h v0 38) 2), vI (h (h v0 38) 3)] [] lk_X10_234 ⟨_, rfl, rfl⟩ dX10_step_302 rfl (Nat.le_of_ble_eq_true rfl) ⟨by decide, by decide, Nat.zero_le _, Nat.zero_le _⟩ q5 ?_
              exact k.mono (fun _ _ z => aw_sub [0] rfl z)
        · have k := k.2 hc
          refine aw_iconst dX10_step_156 ⟨by decide, by decide⟩ ?_
          refine aw_istore_n dX10_step_157 rfl (by decide) ?_
          exact aw_sub [1, 0] rfl k
      · have k := k.2 hc
        refine aw_aload_n 0 dX10_step_134 rfl rfl ?_
        refine aw_getR dX10_step_135 fl_X10_92 rfl o1 (x := (h v0 38)) rfl ?_
        refine aw_bipush dX10_step_138 ⟨by decide, by decide⟩ (by decide) ?_
        refine aw_iald dX10_step_140 o2 (by decide) o3 (x := (h (h v0 38) 9)) rfl ?_
        refine aw_goto (tgt := 148) dX10_step_141 (by decide) ?_
        refine aw_putI dX10_step_148 fl_X10_109 (fun q hq hf => by cases hq; cases hf) rfl rfl o1 ?_
        refine aw_hp (fun h1 e16 => ?_)
        have k := k h1 e16
        refine aw_iload_n 1 dX10_step_151 rfl rfl ?_
        refine aw_iconst dX10_step_152 ⟨by decide, by decide⟩ ?_
        refine aw_icmp_ne (tgt := 262) dX10_step_153 (by decide) (fun hc => ?_) (fun hc => ?_)
        · have k := k.1 hc
          refine aw_aload_n 0 dX10_step_262 rfl rfl ?_
          have q17 := sh_w e16 (by decide) o1
          refine aw_getR dX10_step_263 fl_X10_92 rfl q17 (x := (h v0 38)) (rd_k e16 38 (by decide)) ?_
          refine aw_iconst dX10_step_266 ⟨by decide, by decide⟩ ?_
          obtain ⟨o18, k⟩ := k
          have q19 := sh_w e16 (by decide) o2
          refine aw_iald dX10_step_267 q19 (by decide) (lt_l (ln_w e16 (h v0 38) (by decide)) o18) (x := (h (h v0 38) 0)) (rd_a e16 (h v0 38) 0 (ne_sh o1 o2 (by decide))) ?_
          refine aw_istore_n dX10_step_268 rfl (by decide) ?_
          refine aw_aload_n 1 dX10_step_269 rfl rfl ?_
          refine aw_getR dX10_step_270 fl_X10_22 rfl q17 (x := (h v0 4)) (rd_k e16 4 (by decide)) ?_
          refine aw_iload_n 0 dX10_step_273 rfl rfl ?_
          obtain ⟨o20, k⟩ := k
          obtain ⟨o21, k⟩ := k
          obtain ⟨o22, k⟩ := k
          have q23 := sh_w e16 (by decide) o20
          refine aw_iald dX10_step_274 q23 o21 (lt_l (ln_w e16 (h v0 4) (by decide)) o22) (x := (h (h v0 4) (h (h v0 38) 0))) (rd_a e16 (h v0 4) (h (h v0 38) 0) (ne_sh o1 o20 (by decide))) ?_
          refine aw_iconst dX10_step_275 ⟨by decide, by decide⟩ ?_
          refine aw_icmp_ne (tgt := 325) dX10_step_276 (by decide) (fun hc => ?_) (fun hc => ?_)
          · have k := k.1 hc
            refine aw_iload_n 0 dX10_step_325 rfl rfl ?_
            exact aw_iret dX10_step_326 rfl k
          · have k := k.2 hc
            refine aw_aload_n 1 dX10_step_279 rfl rfl ?_
            refine aw_getR dX10_step_280 fl_X10_92 rfl q17 (x := (h v0 38)) (rd_k e16 38 (by decide)) ?_
            refine aw_iconst dX10_step_283 ⟨by decide, by decide⟩ ?_
            obtain ⟨o24, k⟩ := k
            refine aw_iald dX10_step_284 q19 (by decide) (lt_l (ln_w e16 (h v0 38) (by decide)) o24) (x := (h (h v0 38) 1)) (rd_a e16 (h v0 38) 1 (ne_sh o1 o2 (by decide))) ?_
            refine aw_if_ne (tgt := 308) dX10_step_285 (by decide) (fun hc => ?_) (fun hc => ?_)
            · have k := k.1 hc
              refine aw_aload_n 1 dX10_step_308 rfl rfl ?_
              refine aw_iload_n 0 dX10_step_309 rfl rfl ?_
              refine aw_aload_n 1 dX10_step_310 rfl rfl ?_
              refine aw_getR dX10_step_311 fl_X10_92 rfl q17 (x := (h v0 38)) (rd_k e16 38 (by decide)) ?_
              refine aw_iconst dX10_step_314 ⟨by decide, by decide⟩ ?_
              obtain ⟨o25, k⟩ := k
              refine aw_iald dX10_step_315 q19 (by decide) (lt_l (ln_w e16 (h v0 38) (by decide)) o25) (x := (h (h v0 38) 2)) (rd_a e16 (h v0 38) 2 (ne_sh o1 o2 (by decide))) ?_
              refine aw_aload_n 1 dX10_step_316 rfl rfl ?_
              refine aw_getR dX10_step_317 fl_X10_92 rfl q17 (x := (h v0 38)) (rd_k e16 38 (by decide)) ?_
              refine aw_iconst dX10_step_320 ⟨by decide, by decide⟩ ?_
              refine aw_iald dX10_step_321 q19 (by decide) (lt_l (ln_w e16 (h v0 38) (by decide)) o24) (x := (h (h v0 38) 1)) (rd_a e16 (h v0 38) 1 (ne_sh o1 o2 (by decide))) ?_
              refine aw_callV (M' := mm_X10_answered) 10 [vI (h (h v0 38) 0), vI (h (h v0 38) 2), vI (h (h v0 38) 1)] [] lk_X10_238 ⟨_, rfl, rfl⟩ dX10_step_322 rfl (Nat.le_of_ble_eq_true rfl) ⟨by decide, by decide, Nat.zero_le _, Nat.zero_le _⟩ q17 ?_
              exact k.mono (fun _ _ z => aw_sub [0] rfl z)
            · have k := k.2 hc
              refine aw_aload_n 1 dX10_step_288 rfl rfl ?_
              refine aw_iload_n 0 dX10_step_289 rfl rfl ?_
              refine aw_aload_n 1 dX10_step_290 rfl rfl ?_
              refine aw_getR dX10_step_291 fl_X10_92 rfl q17 (x := (h v0 38)) (rd_k e16 38 (by decide)) ?_
              refine aw_iconst dX10_step_294 ⟨by decide, by decide⟩ ?_
              obtain ⟨o26, k⟩ := k
              refine aw_iald dX10_step_295 q19 (by decide) (lt_l (ln_w e16 (h v0 38) (by decide)) o26) (x := (h (h v0 38) 2)) (rd_a e16 (h v0 38) 2 (ne_sh o1 o2 (by decide))) ?_
              refine aw_aload_n 1 dX10_step_296 rfl rfl ?_
              refine aw_getR dX10_step_297 fl_X10_92 rfl q17 (x := (h v0 38)) (rd_k e16 38 (by decide)) ?_
              refine aw_iconst dX10_step_300 ⟨by decide, by decide⟩ ?_
              obtain ⟨o27, k⟩ := k
              refine aw_iald dX10_step_301 q19 (by decide) (lt_l (ln_w e16 (h v0 38) (by decide)) o27) (x := (h (h v0 38) 3)) (rd_a e16 (h v0 38) 3 (ne_sh o1 o2 (by decide))) ?_
              refine aw_callV (M' := mm_X10_requested) 10 [vI (h (h v0 38) 0), vI (h (h v0 38) 2), vI (h (h v0 38) 3)] [] lk_X10_234 ⟨_, rfl, rfl⟩ dX10_step_302 rfl (Nat.le_of_ble_eq_true rfl) ⟨by decide, by decide, Nat.zero_le _, Nat.zero_le _⟩ q17 ?_
              exact k.mono (fun _ _ z => aw_sub [0] rfl z)
        · have k := k.2 hc
          refine aw_iconst dX10_step_156 ⟨by decide, by decide⟩ ?_
          refine aw_istore_n dX10_step_157 rfl (by decide) ?_
          exact aw_sub [1, 0] rfl k
    · have k := k.2 hc
      refine aw_aload_n 0 dX10_step_102 rfl rfl ?_
      refine aw_dup dX10_step_103 rfl ?_
      refine aw_getI dX10_step_104 fl_X10_123 rfl o1 (x := (h v0 29)) rfl ?_
      refine aw_iconst dX10_step_107 ⟨by decide, by decide⟩ ?_
      obtain ⟨o28, k⟩ := k
      refine aw_iadd dX10_step_108 o28 ?_
      refine aw_putI dX10_step_109 fl_X10_123 (fun q hq hf => by cases hq; cases hf) rfl rfl o1 ?_
      refine aw_hp (fun h1 e29 => ?_)
      have k := k h1 e29
      refine aw_aload_n 0 dX10_step_112 rfl rfl ?_
      have q30 := sh_w e29 (by decide) o1
      refine aw_getR dX10_step_113 fl_X10_92 rfl q30 (x := (h v0 38)) (rd_k e29 38 (by decide)) ?_
      refine aw_iconst dX10_step_116 ⟨by decide, by decide⟩ ?_
      obtain ⟨o31, k⟩ := k
      obtain ⟨o32, k⟩ := k
      have q33 := sh_w e29 (by decide) o31
      refine aw_iald dX10_step_117 q33 (by decide) (lt_l (ln_w e29 (h v0 38) (by decide)) o32) (x := (h (h v0 38) 0)) (rd_a e29 (h v0 38) 0 (ne_sh o1 o31 (by decide))) ?_
      exact aw_iret dX10_step_118 rfl k
  · have k := k.2 hc
    refine aw_aload_n 0 dX10_step_83 rfl rfl ?_
    refine aw_iload_n 2 dX10_step_84 rfl rfl ?_
    refine aw_iconst dX10_step_85 ⟨by decide, by decide⟩ ?_
    obtain ⟨o34, k⟩ := k
    refine aw_iadd dX10_step_86 o34 ?_
    refine aw_iload_n 2 dX10_step_87 rfl rfl ?_
    refine aw_callV (M' := mm_X10_copyPacket) 10 [vI (v3 + 1), vI v3] [] lk_X10_214 ⟨_, rfl, rfl⟩ dX10_step_88 rfl (Nat.le_of_ble_eq_true rfl) ⟨by decide, by decide, Nat.zero_le _, Nat.zero_le _⟩ o1 ?_
    exact k
set_option maxRecDepth 20000 in
theorem sg_X10_step_325 {G : GG} {b : Nat × Nat} {Q : Option VV → Hp → Prop} {v3 : Int} {h : Hp} (k : Q (some (vI v3)) h) : AW G mm_X10_step b 325 [(3, vI v3)] [] h Q := by
  refine aw_iload_n 0 dX10_step_325 rfl rfl ?_
  exact aw_iret dX10_step_326 rfl k
set_option maxRecDepth 20000 in
theorem sg_X10_step_305 {G : GG} {b : Nat × Nat} {Q : Option VV → Hp → Prop} {v3 : Int} {h : Hp} (k : Q (some (vI v3)) h) : AW G mm_X10_step b 305 [(3, vI v3)] [] h Q := by
  refine aw_goto (tgt := 325) dX10_step_305 (by decide) ?_
  refine aw_iload_n 0 dX10_step_325 rfl rfl ?_
  exact aw_iret dX10_step_326 rfl k
set_option maxRecDepth 20000 in
theorem sg_X10_step_158 {G : GG} {b : Nat × Nat} {Q : Option VV → Hp → Prop} {v0 v3 : Int} {h : Hp} (k : ((11 ≤ v3) → (h v0 (-1) = 11) ∧ (inI (11 * (h v0 21))) ∧ (inI ((11 * (h v0 21)) + 9)) ∧ (h (h v0 38) (-1) = 20) ∧ (0 < h (h v0 38) (-2)) ∧ (0 ≤ (h (h v0 38) 0)) ∧ (h (h v0 18) (-1) = 20) ∧ (0 ≤ ((h (h v0 38) 0) / 2)) ∧ (((h (h v0 38) 0) / 2) < h (h v0 18) (-2)) ∧ (inI ((h v0 19) + (h (h v0 18) ((h (h v0 38) 0) / 2)))) ∧ (h (h v0 20) (-1) = 20) ∧ (0 ≤ ((11 * (h v0 21)) + 9)) ∧ (((11 * (h v0 21)) + 9) < h (h v0 20) (-2)) ∧ ∀ h1, h1 = wr h (h v0 20) ((11 * (h v0 21)) + 9) ((h v0 19) + (h (h v0 18) ((h (h v0 38) 0) / 2))) → (inI ((11 * (h v0 21)) + 10)) ∧ (0 ≤ ((11 * (h v0 21)) + 10)) ∧ (((11 * (h v0 21)) + 10) < h (h v0 20) (-2)) ∧ ∀ h2, h2 = wr h1 (h v0 20) ((11 * (h v0 21)) + 10) (h v0 22) → (inI ((h v0 22) + 1)) ∧ ∀ h3, h3 = wr h2 v0 22 ((h v0 22) + 1) → (inI ((h v0 21) + 1)) ∧ ∀ h4, h4 = wr h3 v0 21 ((h v0 21) + 1) → (h (h v0 4) (-1) = 20) ∧ (0 ≤ (h2 (h v0 38) 0)) ∧ ((h2 (h v0 38) 0) < h (h v0 4) (-2)) ∧ ((¬ (h2 (h v0 4) (h2 (h v0 38) 0)) = 1) → Q (some (vI (h2 (h v0 38) 0))) h4) ∧ (((h2 (h v0 4) (h2 (h v0 38) 0)) = 1) → (1 < h (h v0 38) (-2)) ∧ ((¬ (h2 (h v0 38) 1) = 0) → (2 < h (h v0 38) (-2)) ∧ Runs G mm_X10_answered [vR v0, vI (h2 (h v0 38) 0), vI (h2 (h v0 38) 2), vI (h2 (h v0 38) 1)] h4 (fun r h' => AW G mm_X10_step b 325 [(3, vI (h2 (h v0 38) 0))] (r.toList ++ []) h' Q)) ∧ (((h2 (h v0 38) 1) = 0) → (2 < h (h v0 38) (-2)) ∧ (3 < h (h v0 38) (-2)) ∧ Runs G mm_X10_requested [vR v0, vI (h2 (h v0 38) 0), vI (h2 (h v0 38) 2), vI (h2 (h v0 38) 3)] h4 (fun r h' => AW G mm_X10_step b 305 [(3, vI (h2 (h v0 38) 0))] (r.toList ++ []) h' Q)))) ∧ ((¬ (11 ≤ v3)) → (h v0 (-1) = 11) ∧ (inI (11 * (h v0 21))) ∧ (inI ((11 * (h v0 21)) + v3)) ∧ (h (h v0 38) (-1) = 20) ∧ (0 ≤ v3) ∧ (v3 < h (h v0 38) (-2)) ∧ (h (h v0 20) (-1) = 20) ∧ (0 ≤ ((11 * (h v0 21)) + v3)) ∧ (((11 * (h v0 21)) + v3) < h (h v0 20) (-2)) ∧ ∀ h1, h1 = wr h (h v0 20) ((11 * (h v0 21)) + v3) (h (h v0 38) v3) → (inI (v3 + 1)) ∧ AW G mm_X10_step b 158 [(0, vR v0), (3, vI (v3 + 1))] [] h1 Q)) : AW G mm_X10_step b 158 [(0, vR v0), (3, vI v3)] [] h Q := by
  refine aw_iload_n 1 dX10_step_158 rfl rfl ?_
  refine aw_bipush dX10_step_159 ⟨by decide, by decide⟩ (by decide) ?_
  refine aw_icmp_ge (tgt := 190) dX10_step_161 (by decide) (fun hc => ?_) (fun hc => ?_)
  · have k := k.1 hc
    refine aw_aload_n 0 dX10_step_190 rfl rfl ?_
    obtain ⟨o1, k⟩ := k
    refine aw_getR dX10_step_191 fl_X10_68 rfl o1 (x := (h v0 20)) rfl ?_
    refine aw_bipush dX10_step_194 ⟨by decide, by decide⟩ (by decide) ?_
    refine aw_aload_n 0 dX10_step_196 rfl rfl ?_
    refine aw_getI dX10_step_197 fl_X10_113 rfl o1 (x := (h v0 21)) rfl ?_
    obtain ⟨o2, k⟩ := k
    refine aw_imul dX10_step_200 o2 ?_
    refine aw_bipush dX10_step_201 ⟨by decide, by decide⟩ (by decide) ?_
    obtain ⟨o3, k⟩ := k
    refine aw_iadd dX10_step_203 o3 ?_
    refine aw_aload_n 0 dX10_step_204 rfl rfl ?_
    refine aw_getI dX10_step_205 fl_X10_109 rfl o1 (x := (h v0 19)) rfl ?_
    refine aw_aload_n 0 dX10_step_208 rfl rfl ?_
    refine aw_getR dX10_step_209 fl_X10_65 rfl o1 (x := (h v0 18)) rfl ?_
    refine aw_aload_n 0 dX10_step_212 rfl rfl ?_
    refine aw_getR dX10_step_213 fl_X10_92 rfl o1 (x := (h v0 38)) rfl ?_
    refine aw_iconst dX10_step_216 ⟨by decide, by decide⟩ ?_
    obtain ⟨o4, k⟩ := k
    obtain ⟨o5, k⟩ := k
    refine aw_iald dX10_step_217 o4 (by decide) o5 (x := (h (h v0 38) 0)) rfl ?_
    refine aw_iconst dX10_step_218 ⟨by decide, by decide⟩ ?_
    obtain ⟨o6, k⟩ := k
    refine aw_idiv dX10_step_219 o6 (by decide) ?_
    obtain ⟨o7, k⟩ := k
    obtain ⟨o8, k⟩ := k
    obtain ⟨o9, k⟩ := k
    refine aw_iald dX10_step_220 o7 o8 o9 (x := (h (h v0 18) ((h (h v0 38) 0) / 2))) rfl ?_
    obtain ⟨o10, k⟩ := k
    refine aw_iadd dX10_step_221 o10 ?_
    obtain ⟨o11, k⟩ := k
    obtain ⟨o12, k⟩ := k
    obtain ⟨o13, k⟩ := k
    refine aw_iast dX10_step_222 o11 o12 o13 ?_
    refine aw_hp (fun h1 e14 => ?_)
    have k := k h1 e14
    refine aw_aload_n 0 dX10_step_223 rfl rfl ?_
    have q15 := sh_w e14 o12 o1
    refine aw_getR dX10_step_224 fl_X10_68 rfl q15 (x := (h v0 20)) (rd_a e14 v0 20 (ne_sh o11 o1 (by decide))) ?_
    refine aw_bipush dX10_step_227 ⟨by decide, by decide⟩ (by decide) ?_
    refine aw_aload_n 0 dX10_step_229 rfl rfl ?_
    refine aw_getI dX10_step_230 fl_X10_113 rfl q15 (x := (h v0 21)) (rd_a e14 v0 21 (ne_sh o11 o1 (by decide))) ?_
    refine aw_imul dX10_step_233 o2 ?_
    refine aw_bipush dX10_step_234 ⟨by decide, by decide⟩ (by decide) ?_
    obtain ⟨o16, k⟩ := k
    refine aw_iadd dX10_step_236 o16 ?_
    refine aw_aload_n 0 dX10_step_237 rfl rfl ?_
    refine aw_getI dX10_step_238 fl_X10_228 rfl q15 (x := (h v0 22)) (rd_a e14 v0 22 (ne_sh o11 o1 (by decide))) ?_
    obtain ⟨o17, k⟩ := k
    obtain ⟨o18, k⟩ := k
    have q19 := sh_w e14 o12 o11
    refine aw_iast dX10_step_241 q19 o17 (lt_l (ln_w e14 (h v0 20) o12) o18) ?_
    refine aw_hp (fun h2 e20 => ?_)
    have k := k h2 e20
    refine aw_aload_n 0 dX10_step_242 rfl rfl ?_
    refine aw_dup dX10_step_243 rfl ?_
    have q21 := sh_w e20 o17 q15
    refine aw_getI dX10_step_244 fl_X10_228 rfl q21 (x := (h v0 22)) ((rd_a e20 v0 22 (ne_sh q19 q15 (by decide))).trans (rd_a e14 v0 22 (ne_sh o11 o1 (by decide)))) ?_
    refine aw_iconst dX10_step_247 ⟨by decide, by decide⟩ ?_
    obtain ⟨o22, k⟩ := k
    refine aw_iadd dX10_step_248 o22 ?_
    refine aw_putI dX10_step_249 fl_X10_228 (fun q hq hf => by cases hq; cases hf) rfl rfl q21 ?_
    refine aw_hp (fun h3 e23 => ?_)
    have k := k h3 e23
    refine aw_aload_n 0 dX10_step_252 rfl rfl ?_
    refine aw_dup dX10_step_253 rfl ?_
    have q24 := sh_w e23 (by decide) q21
    refine aw_getI dX10_step_254 fl_X10_113 rfl q24 (x := (h v0 21)) ((rd_k e23 21 (by decide)).trans ((rd_a e20 v0 21 (ne_sh q19 q15 (by decide))).trans (rd_a e14 v0 21 (ne_sh o11 o1 (by decide))))) ?_
    refine aw_iconst dX10_step_257 ⟨by decide, by decide⟩ ?_
    obtain ⟨o25, k⟩ := k
    refine aw_iadd dX10_step_258 o25 ?_
    refine aw_putI dX10_step_259 fl_X10_113 (fun q hq hf => by cases hq; cases hf) rfl rfl q24 ?_
    refine aw_hp (fun h4 e26 => ?_)
    have k := k h4 e26
    refine aw_aload_n 0 dX10_step_262 rfl rfl ?_
    have q27 := sh_w e26 (by decide) q24
    refine aw_getR dX10_step_263 fl_X10_92 rfl q27 (x := (h v0 38)) ((rd_k e26 38 (by decide)).trans ((rd_k e23 38 (by decide)).trans ((rd_a e20 v0 38 (ne_sh q19 q15 (by decide))).trans (rd_a e14 v0 38 (ne_sh o11 o1 (by decide)))))) ?_
    refine aw_iconst dX10_step_266 ⟨by decide, by decide⟩ ?_
    have q28 := sh_w e14 o12 o4
    have q29 := sh_w e20 o17 q28
    have q30 := sh_w e23 (by decide) q29
    have q31 := sh_w e26 (by decide) q30
    refine aw_iald dX10_step_267 q31 (by decide) (lt_l ((ln_w e26 (h v0 38) (by decide)).trans ((ln_w e23 (h v0 38) (by decide)).trans ((ln_w e20 (h v0 38) o17).trans (ln_w e14 (h v0 38) o12)))) o5) (x := (h2 (h v0 38) 0)) ((rd_a e26 (h v0 38) 0 (ne_sh q24 q30 (by decide))).trans (rd_a e23 (h v0 38) 0 (ne_sh q21 q29 (by decide)))) ?_
    refine aw_istore_n dX10_step_268 rfl (by decide) ?_
    refine aw_aload_n 1 dX10_step_269 rfl rfl ?_
    refine aw_getR dX10_step_270 fl_X10_22 rfl q27 (x := (h v0 4)) ((rd_k e26 4 (by decide)).trans ((rd_k e23 4 (by decide)).trans ((rd_a e20 v0 4 (ne_sh q19 q15 (by decide))).trans (rd_a e14 v0 4 (ne_sh o11 o1 (by decide)))))) ?_
    refine aw_iload_n 0 dX10_step_273 rfl rfl ?_
    obtain ⟨o32, k⟩ := k
    obtain ⟨o33, k⟩ := k
    obtain ⟨o34, k⟩ := k
    have q35 := sh_w e14 o12 o32
    have q36 := sh_w e20 o17 q35
    have q37 := sh_w e23 (by decide) q36
    have q38 := sh_w e26 (by decide) q37
    refine aw_iald dX10_step_274 q38 o33 (lt_l ((ln_w e26 (h v0 4) (by decide)).trans ((ln_w e23 (h v0 4) (by decide)).trans ((ln_w e20 (h v0 4) o17).trans (ln_w e14 (h v0 4) o12)))) o34) (x := (h2 (h v0 4) (h2 (h v0 38) 0))) ((rd_a e26 (h v0 4) (h2 (h v0 38) 0) (ne_sh q24 q37 (by decide))).trans (rd_a e23 (h v0 4) (h2 (h v0 38) 0) (ne_sh q21 q36 (by decide)))) ?_
    refine aw_iconst dX10_step_275 ⟨by decide, by decide⟩ ?_
    refine aw_icmp_ne (tgt := 325) dX10_step_276 (by decide) (fun hc => ?_) (fun hc => ?_)
    · have k := k.1 hc
      refine aw_iload_n 0 dX10_step_325 rfl rfl ?_
      exact aw_iret dX10_step_326 rfl k
    · have k := k.2 hc
      refine aw_aload_n 1 dX10_step_279 rfl rfl ?_
      refine aw_getR dX10_step_280 fl_X10_92 rfl q27 (x := (h v0 38)) ((rd_k e26 38 (by decide)).trans ((rd_k e23 38 (by decide)).trans ((rd_a e20 v0 38 (ne_sh q19 q15 (by decide))).trans (rd_a e14 v0 38 (ne_sh o11 o1 (by decide)))))) ?_
      refine aw_iconst dX10_step_283 ⟨by decide, by decide⟩ ?_
      obtain ⟨o39, k⟩ := k
      refine aw_iald dX10_step_284 q31 (by decide) (lt_l ((ln_w e26 (h v0 38) (by decide)).trans ((ln_w e23 (h v0 38) (by decide)).trans ((ln_w e20 (h v0 38) o17).trans (ln_w e14 (h v0 38) o12)))) o39) (x := (h2 (h v0 38) 1)) ((rd_a e26 (h v0 38) 1 (ne_sh q24 q30 (by decide))).trans (rd_a e23 (h v0 38) 1 (ne_sh q21 q29 (by decide)))) ?_
      refine aw_if_ne (tgt := 308) dX10_step_285 (by decide) (fun hc => ?_) (fun hc => ?_)
      · have k := k.1 hc
        refine aw_aload_n 1 dX10_step_308 rfl rfl ?_
        refine aw_iload_n 0 dX10_step_309 rfl rfl ?_
        refine aw_aload_n 1 dX10_step_310 rfl rfl ?_
        refine aw_getR dX10_step_311 fl_X10_92 rfl q27 (x := (h v0 38)) ((rd_k e26 38 (by decide)).trans ((rd_k e23 38 (by decide)).trans ((rd_a e20 v0 38 (ne_sh q19 q15 (by decide))).trans (rd_a e14 v0 38 (ne_sh o11 o1 (by decide)))))) ?_
        refine aw_iconst dX10_step_314 ⟨by decide, by decide⟩ ?_
        obtain ⟨o40, k⟩ := k
        refine aw_iald dX10_step_315 q31 (by decide) (lt_l ((ln_w e26 (h v0 38) (by decide)).trans ((ln_w e23 (h v0 38) (by decide)).trans ((ln_w e20 (h v0 38) o17).trans (ln_w e14 (h v0 38) o12)))) o40) (x := (h2 (h v0 38) 2)) ((rd_a e26 (h v0 38) 2 (ne_sh q24 q30 (by decide))).trans (rd_a e23 (h v0 38) 2 (ne_sh q21 q29 (by decide)))) ?_
        refine aw_aload_n 1 dX10_step_316 rfl rfl ?_
        refine aw_getR dX10_step_317 fl_X10_92 rfl q27 (x := (h v0 38)) ((rd_k e26 38 (by decide)).trans ((rd_k e23 38 (by decide)).trans ((rd_a e20 v0 38 (ne_sh q19 q15 (by decide))).trans (rd_a e14 v0 38 (ne_sh o11 o1 (by decide)))))) ?_
        refine aw_iconst dX10_step_320 ⟨by decide, by decide⟩ ?_
        refine aw_iald dX10_step_321 q31 (by decide) (lt_l ((ln_w e26 (h v0 38) (by decide)).trans ((ln_w e23 (h v0 38) (by decide)).trans ((ln_w e20 (h v0 38) o17).trans (ln_w e14 (h v0 38) o12)))) o39) (x := (h2 (h v0 38) 1)) ((rd_a e26 (h v0 38) 1 (ne_sh q24 q30 (by decide))).trans (rd_a e23 (h v0 38) 1 (ne_sh q21 q29 (by decide)))) ?_
        refine aw_callV (M' := mm_X10_answered) 10 [vI (h2 (h v0 38) 0), vI (h2 (h v0 38) 2), vI (h2 (h v0 38) 1)] [] lk_X10_238 ⟨_, rfl, rfl⟩ dX10_step_322 rfl (Nat.le_of_ble_eq_true rfl) ⟨by decide, by decide, Nat.zero_le _, Nat.zero_le _⟩ q27 ?_
        exact k.mono (fun _ _ z => aw_sub [0] rfl z)
      · have k := k.2 hc
        refine aw_aload_n 1 dX10_step_288 rfl rfl ?_
        refine aw_iload_n 0 dX10_step_289 rfl rfl ?_
        refine aw_aload_n 1 dX10_step_290 rfl rfl ?_
        refine aw_getR dX10_step_291 fl_X10_92 rfl q27 (x := (h v0 38)) ((rd_k e26 38 (by decide)).trans ((rd_k e23 38 (by decide)).trans ((rd_a e20 v0 38 (ne_sh q19 q15 (by decide))).trans (rd_a e14 v0 38 (ne_sh o11 o1 (by decide)))))) ?_
        refine aw_iconst dX10_step_294 ⟨by decide, by decide⟩ ?_
        obtain ⟨o41, k⟩ := k
        refine aw_iald dX10_step_295 q31 (by decide) (lt_l ((ln_w e26 (h v0 38) (by decide)).trans ((ln_w e23 (h v0 38) (by decide)).trans ((ln_w e20 (h v0 38) o17).trans (ln_w e14 (h v0 38) o12)))) o41) (x := (h2 (h v0 38) 2)) ((rd_a e26 (h v0 38) 2 (ne_sh q24 q30 (by decide))).trans (rd_a e23 (h v0 38) 2 (ne_sh q21 q29 (by decide)))) ?_
        refine aw_aload_n 1 dX10_step_296 rfl rfl ?_
        refine aw_getR dX10_step_297 fl_X10_92 rfl q27 (x := (h v0 38)) ((rd_k e26 38 (by decide)).trans ((rd_k e23 38 (by decide)).trans ((rd_a e20 v0 38 (ne_sh q19 q15 (by decide))).trans (rd_a e14 v0 38 (ne_sh o11 o1 (by decide)))))) ?_
        refine aw_iconst dX10_step_300 ⟨by decide, by decide⟩ ?_
        obtain ⟨o42, k⟩ := k
        refine aw_iald dX10_step_301 q31 (by decide) (lt_l ((ln_w e26 (h v0 38) (by decide)).trans ((ln_w e23 (h v0 38) (by decide)).trans ((ln_w e20 (h v0 38) o17).trans (ln_w e14 (h v0 38) o12)))) o42) (x := (h2 (h v0 38) 3)) ((rd_a e26 (h v0 38) 3 (ne_sh q24 q30 (by decide))).trans (rd_a e23 (h v0 38) 3 (ne_sh q21 q29 (by decide)))) ?_
        refine aw_callV (M' := mm_X10_requested) 10 [vI (h2 (h v0 38) 0), vI (h2 (h v0 38) 2), vI (h2 (h v0 38) 3)] [] lk_X10_234 ⟨_, rfl, rfl⟩ dX10_step_302 rfl (Nat.le_of_ble_eq_true rfl) ⟨by decide, by decide, Nat.zero_le _, Nat.zero_le _⟩ q27 ?_
        exact k.mono (fun _ _ z => aw_sub [0] rfl z)
  · have k := k.2 hc
    refine aw_aload_n 0 dX10_step_164 rfl rfl ?_
    obtain ⟨o43, k⟩ := k
    refine aw_getR dX10_step_165 fl_X10_68 rfl o43 (x := (h v0 20)) rfl ?_
    refine aw_bipush dX10_step_168 ⟨by decide, by decide⟩ (by decide) ?_
    refine aw_aload_n 0 dX10_step_170 rfl rfl ?_
    refine aw_getI dX10_step_171 fl_X10_113 rfl o43 (x := (h v0 21)) rfl ?_
    obtain ⟨o44, k⟩ := k
    refine aw_imul dX10_step_174 o44 ?_
    refine aw_iload_n 1 dX10_step_175 rfl rfl ?_
    obtain ⟨o45, k⟩ := k
    refine aw_iadd dX10_step_176 o45 ?_
    refine aw_aload_n 0 dX10_step_177 rfl rfl ?_
    refine aw_getR dX10_step_178 fl_X10_92 rfl o43 (x := (h v0 38)) rfl ?_
    refine aw_iload_n 1 dX10_step_181 rfl rfl ?_
    obtain ⟨o46, k⟩ := k
    obtain ⟨o47, k⟩ := k
    obtain ⟨o48, k⟩ := k
    refine aw_iald dX10_step_182 o46 o47 o48 (x := (h (h v0 38) v3)) rfl ?_
    obtain ⟨o49, k⟩ := k
    obtain ⟨o50, k⟩ := k
    obtain ⟨o51, k⟩ := k
    refine aw_iast dX10_step_183 o49 o50 o51 ?_
    refine aw_hp (fun h1 e52 => ?_)
    have k := k h1 e52
    obtain ⟨o53, k⟩ := k
    refine aw_iinc 1 dX10_step_184 rfl o53 (by decide) ?_
    refine aw_goto (tgt := 158) dX10_step_187 (by decide) ?_
    exact aw_sub [1, 0] rfl k
set_option maxRecDepth 20000 in
theorem sg_X10_step_91 {G : GG} {b : Nat × Nat} {Q : Option VV → Hp → Prop} {v0 v1 v3 : Int} {h : Hp} (k : (inI (v3 + 1)) ∧ AW G mm_X10_step b 75 [(0, vR v0), (1, vI v1), (3, vI (v3 + 1))] [] h Q) : AW G mm_X10_step b 91 [(0, vR v0), (1, vI v1), (3, vI v3)] [] h Q := by
  obtain ⟨o1, k⟩ := k
  refine aw_iinc 2 dX10_step_91 rfl o1 (by decide) ?_
  refine aw_goto (tgt := 75) dX10_step_94 (by decide) ?_
  exact aw_sub [1, 2, 0] rfl k
set_option maxRecDepth 20000 in
theorem sg_X10_store_0 {G : GG} {b : Nat × Nat} {Q : Option VV → Hp → Prop} {v0 v1 v2 : Int} {h : Hp} (k : ((0 ≤ v1 ∧ v1 ≤ 3) → ((0 ≤ v2 ∧ v2 ≤ 9999) → (h v0 (-1) = 11) ∧ Runs G mm_X10_post [vR v0, vI v1, vI 1, vI v2, vI 0, vI 0] h (fun r h' => AW G mm_X10_store b 35 [] (r.toList ++ []) h' Q)) ∧ ((¬ (0 ≤ v2 ∧ v2 ≤ 9999)) → Q (some (vI (-1002))) h)) ∧ ((¬ (0 ≤ v1 ∧ v1 ≤ 3)) → Q (some (vI (-1001))) h)) : AW G mm_X10_store b 0 [(0, vR v0), (1, vI v1), (2, vI v2)] [] h Q := by
  refine aw_iload_n 1 dX10_store_0 rfl rfl ?_
  refine aw_callS (M' := mm_X10_isEnd) [vI v1] [] lk_X10_220 dX10_store_1 rfl (Nat.le_of_ble_eq_true rfl) ⟨by decide, by decide, Nat.zero_le _, Nat.zero_le _⟩ ?_
  refine pu_X10_isEnd ?_
  refine aw_if_ne (tgt := 13) dX10_store_4 (by decide) (fun hc => ?_) (fun hc => ?_)
  · have k := k.1 (b2i_n.mp hc)
    refine aw_iload_n 2 dX10_store_13 rfl rfl ?_
    refine aw_callS (M' := mm_X10_isNumber) [vI v2] [] lk_X10_200 dX10_store_14 rfl (Nat.le_of_ble_eq_true rfl) ⟨by decide, by decide, Nat.zero_le _, Nat.zero_le _⟩ ?_
    refine pu_X10_isNumber ?_
    refine aw_if_ne (tgt := 26) dX10_store_17 (by decide) (fun hc => ?_) (fun hc => ?_)
    · have k := k.1 (b2i_n.mp hc)
      refine aw_aload_n 0 dX10_store_26 rfl rfl ?_
      refine aw_iload_n 1 dX10_store_27 rfl rfl ?_
      refine aw_iconst dX10_store_28 ⟨by decide, by decide⟩ ?_
      refine aw_iload_n 2 dX10_store_29 rfl rfl ?_
      refine aw_iconst dX10_store_30 ⟨by decide, by decide⟩ ?_
      refine aw_iconst dX10_store_31 ⟨by decide, by decide⟩ ?_
      obtain ⟨o1, k⟩ := k
      refine aw_callV (M' := mm_X10_post) 10 [vI v1, vI 1, vI v2, vI 0, vI 0] [] lk_X10_282 ⟨_, rfl, rfl⟩ dX10_store_32 rfl (Nat.le_of_ble_eq_true rfl) ⟨by decide, by decide, Nat.zero_le _, Nat.zero_le _⟩ o1 ?_
      exact k.mono (fun _ _ z => aw_sub [] rfl z)
    · have k := k.2 (b2i_0.mp hc)
      refine aw_sipush dX10_store_20 ⟨by decide, by decide⟩ (by decide) ?_
      refine aw_goto (tgt := 35) dX10_store_23 (by decide) ?_
      exact aw_iret dX10_store_35 rfl k
  · have k := k.2 (b2i_0.mp hc)
    refine aw_sipush dX10_store_7 ⟨by decide, by decide⟩ (by decide) ?_
    refine aw_goto (tgt := 35) dX10_store_10 (by decide) ?_
    exact aw_iret dX10_store_35 rfl k
theorem rn_X10_store {G : GG} {Q : Option VV → Hp → Prop} {v0 v1 v2 : Int} {h : Hp} (k : ((0 ≤ v1 ∧ v1 ≤ 3) → ((0 ≤ v2 ∧ v2 ≤ 9999) → (h v0 (-1) = 11) ∧ Runs G mm_X10_post [vR v0, vI v1, vI 1, vI v2, vI 0, vI 0] h (fun r h' => AW G mm_X10_store (0, 0) 35 [] (r.toList ++ []) h' Q)) ∧ ((¬ (0 ≤ v2 ∧ v2 ≤ 9999)) → Q (some (vI (-1002))) h)) ∧ ((¬ (0 ≤ v1 ∧ v1 ≤ 3)) → Q (some (vI (-1001))) h)) : Runs G mm_X10_store [vR v0, vI v1, vI v2] h Q := Runs.of (by decide +kernel) (Nat.le_of_ble_eq_true rfl) (sg_X10_store_0 (b := (0, 0)) k)
set_option maxRecDepth 20000 in
theorem sg_X10_store_35 {G : GG} {b : Nat × Nat} {Q : Option VV → Hp → Prop} {s0 : Int} {h : Hp} (k : Q (some (vI s0)) h) : AW G mm_X10_store b 35 [] [vI s0] h Q := by
  exact aw_iret dX10_store_35 rfl k
set_option maxRecDepth 20000 in
theorem sg_X10_swap_0 {G : GG} {b : Nat × Nat} {Q : Option VV → Hp → Prop} {v0 v1 v2 v3 v4 : Int} {h : Hp} (k : ((¬ (0 ≤ v1 ∧ v1 ≤ 3)) → Q (some (vI (-1001))) h) ∧ ((0 ≤ v1 ∧ v1 ≤ 3) → ((0 ≤ v4 ∧ v4 ≤ 11) → ((¬ (0 ≤ v2 ∧ v2 ≤ 9999)) → Q (some (vI (-1002))) h) ∧ ((0 ≤ v2 ∧ v2 ≤ 9999) → ((0 ≤ v3 ∧ v3 ≤ 9999) → (h v0 (-1) = 11) ∧ Runs G mm_X10_post [vR v0, vI v1, vI 4, vI v2, vI v3, vI v4] h (fun r h' => AW G mm_X10_swap b 51 [] (r.toList ++ []) h' Q)) ∧ ((¬ (0 ≤ v3 ∧ v3 ≤ 9999)) → Q (some (vI (-1002))) h))) ∧ ((¬ (0 ≤ v4 ∧ v4 ≤ 11)) → Q (some (vI (-1001))) h))) : AW G mm_X10_swap b 0 [(0, vR v0), (1, vI v1), (2, vI v2), (3, vI v3), (4, vI v4)] [] h Q := by
  refine aw_iload_n 1 dX10_swap_0 rfl rfl ?_
  refine aw_callS (M' := mm_X10_isEnd) [vI v1] [] lk_X10_220 dX10_swap_1 rfl (Nat.le_of_ble_eq_true rfl) ⟨by decide, by decide, Nat.zero_le _, Nat.zero_le _⟩ ?_
  refine pu_X10_isEnd ?_
  refine aw_if_eq (tgt := 15) dX10_swap_4 (by decide) (fun hc => ?_) (fun hc => ?_)
  · have k := k.1 (b2i_0.mp hc)
    refine aw_sipush dX10_swap_15 ⟨by decide, by decide⟩ (by decide) ?_
    refine aw_goto (tgt := 51) dX10_swap_18 (by decide) ?_
    exact aw_iret dX10_swap_51 rfl k
  · have k := k.2 (b2i_n.mp hc)
    refine aw_iload 4 dX10_swap_7 rfl ?_
    refine aw_callS (M' := mm_X10_isCell) [vI v4] [] lk_X10_197 dX10_swap_9 rfl (Nat.le_of_ble_eq_true rfl) ⟨by decide, by decide, Nat.zero_le _, Nat.zero_le _⟩ ?_
    refine pu_X10_isCell ?_
    refine aw_if_ne (tgt := 21) dX10_swap_12 (by decide) (fun hc => ?_) (fun hc => ?_)
    · have k := k.1 (b2i_n.mp hc)
      refine aw_iload_n 2 dX10_swap_21 rfl rfl ?_
      refine aw_callS (M' := mm_X10_isNumber) [vI v2] [] lk_X10_200 dX10_swap_22 rfl (Nat.le_of_ble_eq_true rfl) ⟨by decide, by decide, Nat.zero_le _, Nat.zero_le _⟩ ?_
      refine pu_X10_isNumber ?_
      refine aw_if_eq (tgt := 35) dX10_swap_25 (by decide) (fun hc => ?_) (fun hc => ?_)
      · have k := k.1 (b2i_0.mp hc)
        refine aw_sipush dX10_swap_35 ⟨by decide, by decide⟩ (by decide) ?_
        refine aw_goto (tgt := 51) dX10_swap_38 (by decide) ?_
        exact aw_iret dX10_swap_51 rfl k
      · have k := k.2 (b2i_n.mp hc)
        refine aw_iload_n 3 dX10_swap_28 rfl rfl ?_
        refine aw_callS (M' := mm_X10_isNumber) [vI v3] [] lk_X10_200 dX10_swap_29 rfl (Nat.le_of_ble_eq_true rfl) ⟨by decide, by decide, Nat.zero_le _, Nat.zero_le _⟩ ?_
        refine pu_X10_isNumber ?_
        refine aw_if_ne (tgt := 41) dX10_swap_32 (by decide) (fun hc => ?_) (fun hc => ?_)
        · have k := k.1 (b2i_n.mp hc)
          refine aw_aload_n 0 dX10_swap_41 rfl rfl ?_
          refine aw_iload_n 1 dX10_swap_42 rfl rfl ?_
          refine aw_iconst dX10_swap_43 ⟨by decide, by decide⟩ ?_
          refine aw_iload_n 2 dX10_swap_44 rfl rfl ?_
          refine aw_iload_n 3 dX10_swap_45 rfl rfl ?_
          refine aw_iload 4 dX10_swap_46 rfl ?_
          obtain ⟨o1, k⟩ := k
          refine aw_callV (M' := mm_X10_post) 10 [vI v1, vI 4, vI v2, vI v3, vI v4] [] lk_X10_282 ⟨_, rfl, rfl⟩ dX10_swap_48 rfl (Nat.le_of_ble_eq_true rfl) ⟨by decide, by decide, Nat.zero_le _, Nat.zero_le _⟩ o1 ?_
          exact k.mono (fun _ _ z => aw_sub [] rfl z)
        · have k := k.2 (b2i_0.mp hc)
          refine aw_sipush dX10_swap_35 ⟨by decide, by decide⟩ (by decide) ?_
          refine aw_goto (tgt := 51) dX10_swap_38 (by decide) ?_
          exact aw_iret dX10_swap_51 rfl k
    · have k := k.2 (b2i_0.mp hc)
      refine aw_sipush dX10_swap_15 ⟨by decide, by decide⟩ (by decide) ?_
      refine aw_goto (tgt := 51) dX10_swap_18 (by decide) ?_
      exact aw_iret dX10_swap_51 rfl k
theorem rn_X10_swap {G : GG} {Q : Option VV → Hp → Prop} {v0 v1 v2 v3 v4 : Int} {h : Hp} (k : ((¬ (0 ≤ v1 ∧ v1 ≤ 3)) → Q (some (vI (-1001))) h) ∧ ((0 ≤ v1 ∧ v1 ≤ 3) → ((0 ≤ v4 ∧ v4 ≤ 11) → ((¬ (0 ≤ v2 ∧ v2 ≤ 9999)) → Q (some (vI (-1002))) h) ∧ ((0 ≤ v2 ∧ v2 ≤ 9999) → ((0 ≤ v3 ∧ v3 ≤ 9999) → (h v0 (-1) = 11) ∧ Runs G mm_X10_post [vR v0, vI v1, vI 4, vI v2, vI v3, vI v4] h (fun r h' => AW G mm_X10_swap (0, 0) 51 [] (r.toList ++ []) h' Q)) ∧ ((¬ (0 ≤ v3 ∧ v3 ≤ 9999)) → Q (some (vI (-1002))) h))) ∧ ((¬ (0 ≤ v4 ∧ v4 ≤ 11)) → Q (some (vI (-1001))) h))) : Runs G mm_X10_swap [vR v0, vI v1, vI v2, vI v3, vI v4] h Q := Runs.of (by decide +kernel) (Nat.le_of_ble_eq_true rfl) (sg_X10_swap_0 (b := (0, 0)) k)
set_option maxRecDepth 20000 in
theorem sg_X10_swap_51 {G : GG} {b : Nat × Nat} {Q : Option VV → Hp → Prop} {s0 : Int} {h : Hp} (k : Q (some (vI s0)) h) : AW G mm_X10_swap b 51 [] [vI s0] h Q := by
  exact aw_iret dX10_swap_51 rfl k
set_option maxRecDepth 20000 in
theorem sg_X10_take_0 {G : GG} {b : Nat × Nat} {Q : Option VV → Hp → Prop} {v0 v1 : Int} {h : Hp} (k : ((0 ≤ v1 ∧ v1 ≤ 1) → (h v0 (-1) = 11) ∧ (h (h v0 24) (-1) = 20) ∧ (0 ≤ v1) ∧ (v1 < h (h v0 24) (-2)) ∧ (h (h v0 25) (-1) = 20) ∧ (v1 < h (h v0 25) (-2)) ∧ ((¬ (h (h v0 24) v1) = (h (h v0 25) v1)) → (h (h v0 26) (-1) = 20) ∧ (0 < h (h v0 26) (-2)) ∧ ∀ h1, h1 = wr h (h v0 26) 0 v1 → AW G mm_X10_take b 37 [(0, vR v0), (1, vI v1), (2, vI 0)] [] h1 Q) ∧ (((h (h v0 24) v1) = (h (h v0 25) v1)) → Q (some (vI (-1))) h)) ∧ ((¬ (0 ≤ v1 ∧ v1 ≤ 1)) → Q (some (vI (-1001))) h)) : AW G mm_X10_take b 0 [(0, vR v0), (1, vI v1)] [] h Q := by
  refine aw_iload_n 1 dX10_take_0 rfl rfl ?_
  refine aw_callS (M' := mm_X10_isHost) [vI v1] [] lk_X10_194 dX10_take_1 rfl (Nat.le_of_ble_eq_true rfl) ⟨by decide, by decide, Nat.zero_le _, Nat.zero_le _⟩ ?_
  refine pu_X10_isHost ?_
  refine aw_if_ne (tgt := 11) dX10_take_4 (by decide) (fun hc => ?_) (fun hc => ?_)
  · have k := k.1 (b2i_n.mp hc)
    refine aw_aload_n 0 dX10_take_11 rfl rfl ?_
    obtain ⟨o1, k⟩ := k
    refine aw_getR dX10_take_12 fl_X10_74 rfl o1 (x := (h v0 24)) rfl ?_
    refine aw_iload_n 1 dX10_take_15 rfl rfl ?_
    obtain ⟨o2, k⟩ := k
    obtain ⟨o3, k⟩ := k
    obtain ⟨o4, k⟩ := k
    refine aw_iald dX10_take_16 o2 o3 o4 (x := (h (h v0 24) v1)) rfl ?_
    refine aw_aload_n 0 dX10_take_17 rfl rfl ?_
    refine aw_getR dX10_take_18 fl_X10_77 rfl o1 (x := (h v0 25)) rfl ?_
    refine aw_iload_n 1 dX10_take_21 rfl rfl ?_
    obtain ⟨o5, k⟩ := k
    obtain ⟨o6, k⟩ := k
    refine aw_iald dX10_take_22 o5 o3 o6 (x := (h (h v0 25) v1)) rfl ?_
    refine aw_icmp_ne (tgt := 28) dX10_take_23 (by decide) (fun hc => ?_) (fun hc => ?_)
    · have k := k.1 hc
      refine aw_aload_n 0 dX10_take_28 rfl rfl ?_
      refine aw_getR dX10_take_29 fl_X10_80 rfl o1 (x := (h v0 26)) rfl ?_
      refine aw_iconst dX10_take_32 ⟨by decide, by decide⟩ ?_
      refine aw_iload_n 1 dX10_take_33 rfl rfl ?_
      obtain ⟨o7, k⟩ := k
      obtain ⟨o8, k⟩ := k
      refine aw_iast dX10_take_34 o7 (by decide) o8 ?_
      refine aw_hp (fun h1 e9 => ?_)
      have k := k h1 e9
      refine aw_iconst dX10_take_35 ⟨by decide, by decide⟩ ?_
      refine aw_istore_n dX10_take_36 rfl (by decide) ?_
      exact aw_sub [1, 2, 0] rfl k
    · have k := k.2 hc
      refine aw_iconst dX10_take_26 ⟨by decide, by decide⟩ ?_
      exact aw_iret dX10_take_27 rfl k
  · have k := k.2 (b2i_0.mp hc)
    refine aw_sipush dX10_take_7 ⟨by decide, by decide⟩ (by decide) ?_
    exact aw_iret dX10_take_10 rfl k
theorem rn_X10_take {G : GG} {Q : Option VV → Hp → Prop} {v0 v1 : Int} {h : Hp} (k : ((0 ≤ v1 ∧ v1 ≤ 1) → (h v0 (-1) = 11) ∧ (h (h v0 24) (-1) = 20) ∧ (0 ≤ v1) ∧ (v1 < h (h v0 24) (-2)) ∧ (h (h v0 25) (-1) = 20) ∧ (v1 < h (h v0 25) (-2)) ∧ ((¬ (h (h v0 24) v1) = (h (h v0 25) v1)) → (h (h v0 26) (-1) = 20) ∧ (0 < h (h v0 26) (-2)) ∧ ∀ h1, h1 = wr h (h v0 26) 0 v1 → AW G mm_X10_take (0, 0) 37 [(0, vR v0), (1, vI v1), (2, vI 0)] [] h1 Q) ∧ (((h (h v0 24) v1) = (h (h v0 25) v1)) → Q (some (vI (-1))) h)) ∧ ((¬ (0 ≤ v1 ∧ v1 ≤ 1)) → Q (some (vI (-1001))) h)) : Runs G mm_X10_take [vR v0, vI v1] h Q := Runs.of (by decide +kernel) (Nat.le_of_ble_eq_true rfl) (sg_X10_take_0 (b := (0, 0)) k)
set_option maxRecDepth 20000 in
theorem sg_X10_take_37 {G : GG} {b : Nat × Nat} {Q : Option VV → Hp → Prop} {v0 v1 v2 : Int} {h : Hp} (k : ((5 ≤ v2) → (h v0 (-1) = 11) ∧ (h (h v0 24) (-1) = 20) ∧ (0 ≤ v1) ∧ (v1 < h (h v0 24) (-2)) ∧ (inI ((h (h v0 24) v1) + 1)) ∧ ∀ h1, h1 = wr h (h v0 24) v1 ((h (h v0 24) v1) + 1) → ∀ h2, h2 = wr h1 v0 27 1 → (h (h v0 26) (-1) = 20) ∧ (4 < h (h v0 26) (-2)) ∧ Q (some (vI (h1 (h v0 26) 4))) h2) ∧ ((¬ (5 ≤ v2)) → (h v0 (-1) = 11) ∧ (inI (1 + v2)) ∧ (inI (600 * v1)) ∧ (h (h v0 24) (-1) = 20) ∧ (0 ≤ v1) ∧ (v1 < h (h v0 24) (-2)) ∧ (inI ((600 * v1) + (h (h v0 24) v1))) ∧ (inI (5 * ((600 * v1) + (h (h v0 24) v1)))) ∧ (inI ((5 * ((600 * v1) + (h (h v0 24) v1))) + v2)) ∧ (h (h v0 23) (-1) = 20) ∧ (0 ≤ ((5 * ((600 * v1) + (h (h v0 24) v1))) + v2)) ∧ (((5 * ((600 * v1) + (h (h v0 24) v1))) + v2) < h (h v0 23) (-2)) ∧ (h (h v0 26) (-1) = 20) ∧ (0 ≤ (1 + v2)) ∧ ((1 + v2) < h (h v0 26) (-2)) ∧ ∀ h1, h1 = wr h (h v0 26) (1 + v2) (h (h v0 23) ((5 * ((600 * v1) + (h (h v0 24) v1))) + v2)) → (inI (v2 + 1)) ∧ AW G mm_X10_take b 37 [(0, vR v0), (1, vI v1), (2, vI (v2 + 1))] [] h1 Q)) : AW G mm_X10_take b 37 [(0, vR v0), (1, vI v1), (2, vI v2)] [] h Q := by
  refine aw_iload_n 2 dX10_take_37 rfl rfl ?_
  refine aw_iconst dX10_take_38 ⟨by decide, by decide⟩ ?_
  refine aw_icmp_ge (tgt := 77) dX10_take_39 (by decide) (fun hc => ?_) (fun hc => ?_)
  · have k := k.1 hc
    refine aw_aload_n 0 dX10_take_77 rfl rfl ?_
    obtain ⟨o1, k⟩ := k
    refine aw_getR dX10_take_78 fl_X10_74 rfl o1 (x := (h v0 24)) rfl ?_
    refine aw_iload_n 1 dX10_take_81 rfl rfl ?_
    refine aw_dup2 dX10_take_82 rfl rfl ?_
    obtain ⟨o2, k⟩ := k
    obtain ⟨o3, k⟩ := k
    obtain ⟨o4, k⟩ := k
    refine aw_iald dX10_take_83 o2 o3 o4 (x := (h (h v0 24) v1)) rfl ?_
    refine aw_iconst dX10_take_84 ⟨by decide, by decide⟩ ?_
    obtain ⟨o5, k⟩ := k
    refine aw_iadd dX10_take_85 o5 ?_
    refine aw_iast dX10_take_86 o2 o3 o4 ?_
    refine aw_hp (fun h1 e6 => ?_)
    have k := k h1 e6
    refine aw_aload_n 0 dX10_take_87 rfl rfl ?_
    refine aw_iconst dX10_take_88 ⟨by decide, by decide⟩ ?_
    have q7 := sh_w e6 o3 o1
    refine aw_putZ dX10_take_89 fl_X10_116 (fun q hq hf => by cases hq; cases hf) rfl rfl (by decide) q7 ?_
    refine aw_hp (fun h2 e8 => ?_)
    have k := k h2 e8
    refine aw_aload_n 0 dX10_take_92 rfl rfl ?_
    have q9 := sh_w e8 (by decide) q7
    refine aw_getR dX10_take_93 fl_X10_80 rfl q9 (x := (h v0 26)) ((rd_k e8 26 (by decide)).trans (rd_a e6 v0 26 (ne_sh o2 o1 (by decide)))) ?_
    refine aw_iconst dX10_take_96 ⟨by decide, by decide⟩ ?_
    obtain ⟨o10, k⟩ := k
    obtain ⟨o11, k⟩ := k
    have q12 := sh_w e6 o3 o10
    have q13 := sh_w e8 (by decide) q12
    refine aw_iald dX10_take_97 q13 (by decide) (lt_l ((ln_w e8 (h v0 26) (by decide)).trans (ln_w e6 (h v0 26) o3)) o11) (x := (h1 (h v0 26) 4)) (rd_a e8 (h v0 26) 4 (ne_sh q7 q12 (by decide))) ?_
    exact aw_iret dX10_take_98 rfl k
  · have k := k.2 hc
    refine aw_aload_n 0 dX10_take_42 rfl rfl ?_
    obtain ⟨o14, k⟩ := k
    refine aw_getR dX10_take_43 fl_X10_80 rfl o14 (x := (h v0 26)) rfl ?_
    refine aw_iconst dX10_take_46 ⟨by decide, by decide⟩ ?_
    refine aw_iload_n 2 dX10_take_47 rfl rfl ?_
    obtain ⟨o15, k⟩ := k
    refine aw_iadd dX10_take_48 o15 ?_
    refine aw_aload_n 0 dX10_take_49 rfl rfl ?_
    refine aw_getR dX10_take_50 fl_X10_71 rfl o14 (x := (h v0 23)) rfl ?_
    refine aw_iconst dX10_take_53 ⟨by decide, by decide⟩ ?_
    refine aw_sipush dX10_take_54 ⟨by decide, by decide⟩ (by decide) ?_
    refine aw_iload_n 1 dX10_take_57 rfl rfl ?_
    obtain ⟨o16, k⟩ := k
    refine aw_imul dX10_take_58 o16 ?_
    refine aw_aload_n 0 dX10_take_59 rfl rfl ?_
    refine aw_getR dX10_take_60 fl_X10_74 rfl o14 (x := (h v0 24)) rfl ?_
    refine aw_iload_n 1 dX10_take_63 rfl rfl ?_
    obtain ⟨o17, k⟩ := k
    obtain ⟨o18, k⟩ := k
    obtain ⟨o19, k⟩ := k
    refine aw_iald dX10_take_64 o17 o18 o19 (x := (h (h v0 24) v1)) rfl ?_
    obtain ⟨o20, k⟩ := k
    refine aw_iadd dX10_take_65 o20 ?_
    obtain ⟨o21, k⟩ := k
    refine aw_imul dX10_take_66 o21 ?_
    refine aw_iload_n 2 dX10_take_67 rfl rfl ?_
    obtain ⟨o22, k⟩ := k
    refine aw_iadd dX10_take_68 o22 ?_
    obtain ⟨o23, k⟩ := k
    obtain ⟨o24, k⟩ := k
    obtain ⟨o25, k⟩ := k
    refine aw_iald dX10_take_69 o23 o24 o25 (x := (h (h v0 23) ((5 * ((600 * v1) + (h (h v0 24) v1))) + v2))) rfl ?_
    obtain ⟨o26, k⟩ := k
    obtain ⟨o27, k⟩ := k
    obtain ⟨o28, k⟩ := k
    refine aw_iast dX10_take_70 o26 o27 o28 ?_
    refine aw_hp (fun h1 e29 => ?_)
    have k := k h1 e29
    obtain ⟨o30, k⟩ := k
    refine aw_iinc 2 dX10_take_71 rfl o30 (by decide) ?_
    refine aw_goto (tgt := 37) dX10_take_74 (by decide) ?_
    exact aw_sub [1, 2, 0] rfl k
set_option maxRecDepth 20000 in
theorem sg_X10_taken_0 {G : GG} {b : Nat × Nat} {Q : Option VV → Hp → Prop} {v0 v1 : Int} {h : Hp} (k : ((0 ≤ v1 ∧ v1 ≤ 5) → (h v0 (-1) = 11) ∧ (((h v0 27) = 0) → Q (some (vI (-1))) h) ∧ ((¬ ((h v0 27) = 0)) → (h (h v0 26) (-1) = 20) ∧ (0 ≤ v1) ∧ (v1 < h (h v0 26) (-2)) ∧ Q (some (vI (h (h v0 26) v1))) h)) ∧ ((¬ (0 ≤ v1 ∧ v1 ≤ 5)) → Q (some (vI (-1002))) h)) : AW G mm_X10_taken b 0 [(0, vR v0), (1, vI v1)] [] h Q := by
  refine aw_iload_n 1 dX10_taken_0 rfl rfl ?_
  refine aw_i2l dX10_taken_1 ?_
  refine aw_lconst (x := 0) dX10_taken_2 ⟨by decide, by decide⟩ (by decide) ?_
  refine aw_ldc2 (x := 5) dX10_taken_3 ⟨by decide, by decide⟩ cl_X10_286 ?_
  refine aw_callS (M' := mm_X10_in) [vL v1, vL 0, vL 5] [] lk_X10_95 dX10_taken_6 rfl (Nat.le_of_ble_eq_true rfl) ⟨by decide, by decide, Nat.zero_le _, Nat.zero_le _⟩ ?_
  refine pu_X10_in ?_
  refine aw_if_ne (tgt := 18) dX10_taken_9 (by decide) (fun hc => ?_) (fun hc => ?_)
  · have k := k.1 (b2i_n.mp hc)
    refine aw_aload_n 0 dX10_taken_18 rfl rfl ?_
    obtain ⟨o1, k⟩ := k
    refine aw_getI dX10_taken_19 fl_X10_116 rfl o1 (x := (h v0 27)) rfl ?_
    refine aw_if_eq (tgt := 34) dX10_taken_22 (by decide) (fun hc => ?_) (fun hc => ?_)
    · have k := k.1 hc
      refine aw_iconst dX10_taken_34 ⟨by decide, by decide⟩ ?_
      exact aw_iret dX10_taken_35 rfl k
    · have k := k.2 hc
      refine aw_aload_n 0 dX10_taken_25 rfl rfl ?_
      refine aw_getR dX10_taken_26 fl_X10_80 rfl o1 (x := (h v0 26)) rfl ?_
      refine aw_iload_n 1 dX10_taken_29 rfl rfl ?_
      obtain ⟨o2, k⟩ := k
      obtain ⟨o3, k⟩ := k
      obtain ⟨o4, k⟩ := k
      refine aw_iald dX10_taken_30 o2 o3 o4 (x := (h (h v0 26) v1)) rfl ?_
      refine aw_goto (tgt := 35) dX10_taken_31 (by decide) ?_
      exact aw_iret dX10_taken_35 rfl k
  · have k := k.2 (b2i_0.mp hc)
    refine aw_sipush dX10_taken_12 ⟨by decide, by decide⟩ (by decide) ?_
    refine aw_goto (tgt := 35) dX10_taken_15 (by decide) ?_
    exact aw_iret dX10_taken_35 rfl k
theorem rn_X10_taken {G : GG} {Q : Option VV → Hp → Prop} {v0 v1 : Int} {h : Hp} (k : ((0 ≤ v1 ∧ v1 ≤ 5) → (h v0 (-1) = 11) ∧ (((h v0 27) = 0) → Q (some (vI (-1))) h) ∧ ((¬ ((h v0 27) = 0)) → (h (h v0 26) (-1) = 20) ∧ (0 ≤ v1) ∧ (v1 < h (h v0 26) (-2)) ∧ Q (some (vI (h (h v0 26) v1))) h)) ∧ ((¬ (0 ≤ v1 ∧ v1 ≤ 5)) → Q (some (vI (-1002))) h)) : Runs G mm_X10_taken [vR v0, vI v1] h Q := Runs.of (by decide +kernel) (Nat.le_of_ble_eq_true rfl) (sg_X10_taken_0 (b := (0, 0)) k)
set_option maxRecDepth 20000 in
theorem sg_X10_tear_0 {G : GG} {b : Nat × Nat} {Q : Option VV → Hp → Prop} {v0 v1 : Int} {h : Hp} (k : ((0 ≤ v1 ∧ v1 ≤ 3) → (h v0 (-1) = 11) ∧ (h (h v0 4) (-1) = 20) ∧ (0 ≤ v1) ∧ (v1 < h (h v0 4) (-2)) ∧ (((h (h v0 4) v1) = 1) → (h (h v0 6) (-1) = 20) ∧ (v1 < h (h v0 6) (-2)) ∧ (h (h v0 9) (-1) = 20) ∧ (v1 < h (h v0 9) (-2)) ∧ (inI ((h (h v0 6) v1) + (h (h v0 9) v1))) ∧ Runs G mm_X10_breaks [vR v0, vI v1] h (fun r h' => AW G mm_X10_tear b 44 [(2, vI ((h (h v0 6) v1) + (h (h v0 9) v1)))] (r.toList ++ []) h' Q)) ∧ ((¬ ((h (h v0 4) v1) = 1)) → Q (some (vI (-1003))) h)) ∧ ((¬ (0 ≤ v1 ∧ v1 ≤ 3)) → Q (some (vI (-1001))) h)) : AW G mm_X10_tear b 0 [(0, vR v0), (1, vI v1)] [] h Q := by
  refine aw_iload_n 1 dX10_tear_0 rfl rfl ?_
  refine aw_callS (M' := mm_X10_isEnd) [vI v1] [] lk_X10_220 dX10_tear_1 rfl (Nat.le_of_ble_eq_true rfl) ⟨by decide, by decide, Nat.zero_le _, Nat.zero_le _⟩ ?_
  refine pu_X10_isEnd ?_
  refine aw_if_ne (tgt := 11) dX10_tear_4 (by decide) (fun hc => ?_) (fun hc => ?_)
  · have k := k.1 (b2i_n.mp hc)
    refine aw_aload_n 0 dX10_tear_11 rfl rfl ?_
    obtain ⟨o1, k⟩ := k
    refine aw_getR dX10_tear_12 fl_X10_22 rfl o1 (x := (h v0 4)) rfl ?_
    refine aw_iload_n 1 dX10_tear_15 rfl rfl ?_
    obtain ⟨o2, k⟩ := k
    obtain ⟨o3, k⟩ := k
    obtain ⟨o4, k⟩ := k
    refine aw_iald dX10_tear_16 o2 o3 o4 (x := (h (h v0 4) v1)) rfl ?_
    refine aw_iconst dX10_tear_17 ⟨by decide, by decide⟩ ?_
    refine aw_icmp_eq (tgt := 25) dX10_tear_18 (by decide) (fun hc => ?_) (fun hc => ?_)
    · have k := k.1 hc
      refine aw_aload_n 0 dX10_tear_25 rfl rfl ?_
      refine aw_getR dX10_tear_26 fl_X10_28 rfl o1 (x := (h v0 6)) rfl ?_
      refine aw_iload_n 1 dX10_tear_29 rfl rfl ?_
      obtain ⟨o5, k⟩ := k
      obtain ⟨o6, k⟩ := k
      refine aw_iald dX10_tear_30 o5 o3 o6 (x := (h (h v0 6) v1)) rfl ?_
      refine aw_aload_n 0 dX10_tear_31 rfl rfl ?_
      refine aw_getR dX10_tear_32 fl_X10_37 rfl o1 (x := (h v0 9)) rfl ?_
      refine aw_iload_n 1 dX10_tear_35 rfl rfl ?_
      obtain ⟨o7, k⟩ := k
      obtain ⟨o8, k⟩ := k
      refine aw_iald dX10_tear_36 o7 o3 o8 (x := (h (h v0 9) v1)) rfl ?_
      obtain ⟨o9, k⟩ := k
      refine aw_iadd dX10_tear_37 o9 ?_
      refine aw_istore_n dX10_tear_38 rfl (by decide) ?_
      refine aw_aload_n 1 dX10_tear_39 rfl rfl ?_
      refine aw_iload_n 2 dX10_tear_40 rfl rfl ?_
      refine aw_callV (M' := mm_X10_breaks) 10 [vI v1] [] lk_X10_223 ⟨_, rfl, rfl⟩ dX10_tear_41 rfl (Nat.le_of_ble_eq_true rfl) ⟨by decide, by decide, Nat.zero_le _, Nat.zero_le _⟩ o1 ?_
      exact k.mono (fun _ _ z => aw_sub [0] rfl z)
    · have k := k.2 hc
      refine aw_sipush dX10_tear_21 ⟨by decide, by decide⟩ (by decide) ?_
      exact aw_iret dX10_tear_24 rfl k
  · have k := k.2 (b2i_0.mp hc)
    refine aw_sipush dX10_tear_7 ⟨by decide, by decide⟩ (by decide) ?_
    exact aw_iret dX10_tear_10 rfl k
theorem rn_X10_tear {G : GG} {Q : Option VV → Hp → Prop} {v0 v1 : Int} {h : Hp} (k : ((0 ≤ v1 ∧ v1 ≤ 3) → (h v0 (-1) = 11) ∧ (h (h v0 4) (-1) = 20) ∧ (0 ≤ v1) ∧ (v1 < h (h v0 4) (-2)) ∧ (((h (h v0 4) v1) = 1) → (h (h v0 6) (-1) = 20) ∧ (v1 < h (h v0 6) (-2)) ∧ (h (h v0 9) (-1) = 20) ∧ (v1 < h (h v0 9) (-2)) ∧ (inI ((h (h v0 6) v1) + (h (h v0 9) v1))) ∧ Runs G mm_X10_breaks [vR v0, vI v1] h (fun r h' => AW G mm_X10_tear (0, 0) 44 [(2, vI ((h (h v0 6) v1) + (h (h v0 9) v1)))] (r.toList ++ []) h' Q)) ∧ ((¬ ((h (h v0 4) v1) = 1)) → Q (some (vI (-1003))) h)) ∧ ((¬ (0 ≤ v1 ∧ v1 ≤ 3)) → Q (some (vI (-1001))) h)) : Runs G mm_X10_tear [vR v0, vI v1] h Q := Runs.of (by decide +kernel) (Nat.le_of_ble_eq_true rfl) (sg_X10_tear_0 (b := (0, 0)) k)
set_option maxRecDepth 20000 in
theorem sg_X10_tear_44 {G : GG} {b : Nat × Nat} {Q : Option VV → Hp → Prop} {v2 : Int} {h : Hp} (k : Q (some (vI v2)) h) : AW G mm_X10_tear b 44 [(2, vI v2)] [] h Q := by
  refine aw_iload_n 0 dX10_tear_44 rfl rfl ?_
  exact aw_iret dX10_tear_45 rfl k
set_option maxRecDepth 20000 in
theorem sg_X10_tell_0 {G : GG} {b : Nat × Nat} {Q : Option VV → Hp → Prop} {v0 : Int} {h : Hp} (k : (h v0 (-1) = 11) ∧ Runs G mm_X10_readsAll [vR v0, vI 0] h (fun r h' => AW G mm_X10_tell b 5 [(0, vR v0)] (r.toList ++ []) h' Q)) : AW G mm_X10_tell b 0 [(0, vR v0)] [] h Q := by
  refine aw_aload_n 0 dX10_tell_0 rfl rfl ?_
  refine aw_iconst dX10_tell_1 ⟨by decide, by decide⟩ ?_
  obtain ⟨o1, k⟩ := k
  refine aw_callV (M' := mm_X10_readsAll) 10 [vI 0] [] lk_X10_190 ⟨_, rfl, rfl⟩ dX10_tell_2 rfl (Nat.le_of_ble_eq_true rfl) ⟨by decide, by decide, Nat.zero_le _, Nat.zero_le _⟩ o1 ?_
  exact k
theorem rn_X10_tell {G : GG} {Q : Option VV → Hp → Prop} {v0 : Int} {h : Hp} (k : (h v0 (-1) = 11) ∧ Runs G mm_X10_readsAll [vR v0, vI 0] h (fun r h' => AW G mm_X10_tell (0, 0) 5 [(0, vR v0)] (r.toList ++ []) h' Q)) : Runs G mm_X10_tell [vR v0] h Q := Runs.of (by decide +kernel) (Nat.le_of_ble_eq_true rfl) (sg_X10_tell_0 (b := (0, 0)) k)
set_option maxRecDepth 20000 in
theorem sg_X10_tell_5 {G : GG} {b : Nat × Nat} {Q : Option VV → Hp → Prop} {v0 s0 : Int} {h : Hp} (k : ((¬ s0 = 0) → (h v0 (-1) = 11) ∧ Runs G mm_X10_readsAll [vR v0, vI 1] h (fun r h' => AW G mm_X10_tell b 17 [(0, vR v0)] (r.toList ++ []) h' Q)) ∧ ((s0 = 0) → Q (some (vI (-1003))) h)) : AW G mm_X10_tell b 5 [(0, vR v0)] [vI s0] h Q := by
  refine aw_if_ne (tgt := 12) dX10_tell_5 (by decide) (fun hc => ?_) (fun hc => ?_)
  · have k := k.1 hc
    refine aw_aload_n 0 dX10_tell_12 rfl rfl ?_
    refine aw_iconst dX10_tell_13 ⟨by decide, by decide⟩ ?_
    obtain ⟨o1, k⟩ := k
    refine aw_callV (M' := mm_X10_readsAll) 10 [vI 1] [] lk_X10_190 ⟨_, rfl, rfl⟩ dX10_tell_14 rfl (Nat.le_of_ble_eq_true rfl) ⟨by decide, by decide, Nat.zero_le _, Nat.zero_le _⟩ o1 ?_
    exact k
  · have k := k.2 hc
    refine aw_sipush dX10_tell_8 ⟨by decide, by decide⟩ (by decide) ?_
    exact aw_iret dX10_tell_11 rfl k
set_option maxRecDepth 20000 in
theorem sg_X10_tell_17 {G : GG} {b : Nat × Nat} {Q : Option VV → Hp → Prop} {v0 s0 : Int} {h : Hp} (k : (h v0 (-1) = 11) ∧ ∀ h1, h1 = wr h v0 31 0 → Q (some (vI (h v0 34))) h1) : AW G mm_X10_tell b 17 [(0, vR v0)] [vI s0] h Q := by
  refine aw_pop dX10_tell_17 rfl ?_
  refine aw_aload_n 0 dX10_tell_18 rfl rfl ?_
  refine aw_iconst dX10_tell_19 ⟨by decide, by decide⟩ ?_
  obtain ⟨o1, k⟩ := k
  refine aw_putI dX10_tell_20 fl_X10_128 (fun q hq hf => by cases hq; cases hf) rfl rfl o1 ?_
  refine aw_hp (fun h1 e2 => ?_)
  have k := k h1 e2
  refine aw_aload_n 0 dX10_tell_23 rfl rfl ?_
  have q3 := sh_w e2 (by decide) o1
  refine aw_getI dX10_tell_24 fl_X10_183 rfl q3 (x := (h v0 34)) (rd_k e2 34 (by decide)) ?_
  exact aw_iret dX10_tell_27 rfl k
set_option maxRecDepth 20000 in
theorem sg_X10_tells_0 {G : GG} {b : Nat × Nat} {Q : Option VV → Hp → Prop} {v0 v1 v2 v3 v4 v5 : Int} {h : Hp} (k : (0 ≤ v1) ∧ (inI (600 * (v1 % 2))) ∧ (h v0 (-1) = 11) ∧ (h (h v0 25) (-1) = 20) ∧ (0 ≤ (v1 % 2)) ∧ ((v1 % 2) < h (h v0 25) (-2)) ∧ (inI ((600 * (v1 % 2)) + (h (h v0 25) (v1 % 2)))) ∧ (inI (5 * ((600 * (v1 % 2)) + (h (h v0 25) (v1 % 2))))) ∧ (h (h v0 23) (-1) = 20) ∧ (0 ≤ (5 * ((600 * (v1 % 2)) + (h (h v0 25) (v1 % 2))))) ∧ ((5 * ((600 * (v1 % 2)) + (h (h v0 25) (v1 % 2)))) < h (h v0 23) (-2)) ∧ ∀ h1, h1 = wr h (h v0 23) (5 * ((600 * (v1 % 2)) + (h (h v0 25) (v1 % 2)))) v1 → (inI ((5 * ((600 * (v1 % 2)) + (h (h v0 25) (v1 % 2)))) + 1)) ∧ (0 ≤ ((5 * ((600 * (v1 % 2)) + (h (h v0 25) (v1 % 2)))) + 1)) ∧ (((5 * ((600 * (v1 % 2)) + (h (h v0 25) (v1 % 2)))) + 1) < h (h v0 23) (-2)) ∧ ∀ h2, h2 = wr h1 (h v0 23) ((5 * ((600 * (v1 % 2)) + (h (h v0 25) (v1 % 2)))) + 1) v2 → (inI ((5 * ((600 * (v1 % 2)) + (h (h v0 25) (v1 % 2)))) + 2)) ∧ (0 ≤ ((5 * ((600 * (v1 % 2)) + (h (h v0 25) (v1 % 2)))) + 2)) ∧ (((5 * ((600 * (v1 % 2)) + (h (h v0 25) (v1 % 2)))) + 2) < h (h v0 23) (-2)) ∧ ∀ h3, h3 = wr h2 (h v0 23) ((5 * ((600 * (v1 % 2)) + (h (h v0 25) (v1 % 2)))) + 2) v3 → (inI ((5 * ((600 * (v1 % 2)) + (h (h v0 25) (v1 % 2)))) + 3)) ∧ (0 ≤ ((5 * ((600 * (v1 % 2)) + (h (h v0 25) (v1 % 2)))) + 3)) ∧ (((5 * ((600 * (v1 % 2)) + (h (h v0 25) (v1 % 2)))) + 3) < h (h v0 23) (-2)) ∧ ∀ h4, h4 = wr h3 (h v0 23) ((5 * ((600 * (v1 % 2)) + (h (h v0 25) (v1 % 2)))) + 3) v4 → (inI ((5 * ((600 * (v1 % 2)) + (h (h v0 25) (v1 % 2)))) + 4)) ∧ (0 ≤ ((5 * ((600 * (v1 % 2)) + (h (h v0 25) (v1 % 2)))) + 4)) ∧ (((5 * ((600 * (v1 % 2)) + (h (h v0 25) (v1 % 2)))) + 4) < h (h v0 23) (-2)) ∧ ∀ h5, h5 = wr h4 (h v0 23) ((5 * ((600 * (v1 % 2)) + (h (h v0 25) (v1 % 2)))) + 4) v5 → (inI ((h5 (h v0 25) (v1 % 2)) + 1)) ∧ ∀ h6, h6 = wr h5 (h v0 25) (v1 % 2) ((h5 (h v0 25) (v1 % 2)) + 1) → Q none h6) : AW G mm_X10_tells b 0 [(0, vR v0), (1, vI v1), (2, vI v2), (3, vI v3), (4, vI v4), (5, vI v5)] [] h Q := by
  refine aw_iload_n 1 dX10_tells_0 rfl rfl ?_
  refine aw_iconst dX10_tells_1 ⟨by decide, by decide⟩ ?_
  obtain ⟨o1, k⟩ := k
  refine aw_irem dX10_tells_2 o1 (by decide) ?_
  refine aw_istore dX10_tells_3 (by decide) ?_
  refine aw_iconst dX10_tells_5 ⟨by decide, by decide⟩ ?_
  refine aw_sipush dX10_tells_6 ⟨by decide, by decide⟩ (by decide) ?_
  refine aw_iload 0 dX10_tells_9 rfl ?_
  obtain ⟨o2, k⟩ := k
  refine aw_imul dX10_tells_11 o2 ?_
  refine aw_aload_n 1 dX10_tells_12 rfl rfl ?_
  obtain ⟨o3, k⟩ := k
  refine aw_getR dX10_tells_13 fl_X10_77 rfl o3 (x := (h v0 25)) rfl ?_
  refine aw_iload 0 dX10_tells_16 rfl ?_
  obtain ⟨o4, k⟩ := k
  obtain ⟨o5, k⟩ := k
  obtain ⟨o6, k⟩ := k
  refine aw_iald dX10_tells_18 o4 o5 o6 (x := (h (h v0 25) (v1 % 2))) rfl ?_
  obtain ⟨o7, k⟩ := k
  refine aw_iadd dX10_tells_19 o7 ?_
  obtain ⟨o8, k⟩ := k
  refine aw_imul dX10_tells_20 o8 ?_
  refine aw_istore dX10_tells_21 (by decide) ?_
  refine aw_aload_n 2 dX10_tells_23 rfl rfl ?_
  refine aw_getR dX10_tells_24 fl_X10_71 rfl o3 (x := (h v0 23)) rfl ?_
  refine aw_iload 0 dX10_tells_27 rfl ?_
  refine aw_iload_n 3 dX10_tells_29 rfl rfl ?_
  obtain ⟨o9, k⟩ := k
  obtain ⟨o10, k⟩ := k
  obtain ⟨o11, k⟩ := k
  refine aw_iast dX10_tells_30 o9 o10 o11 ?_
  refine aw_hp (fun h1 e12 => ?_)
  have k := k h1 e12
  refine aw_aload_n 2 dX10_tells_31 rfl rfl ?_
  have q13 := sh_w e12 o10 o3
  refine aw_getR dX10_tells_32 fl_X10_71 rfl q13 (x := (h v0 23)) (rd_a e12 v0 23 (ne_sh o9 o3 (by decide))) ?_
  refine aw_iload 0 dX10_tells_35 rfl ?_
  refine aw_iconst dX10_tells_37 ⟨by decide, by decide⟩ ?_
  obtain ⟨o14, k⟩ := k
  refine aw_iadd dX10_tells_38 o14 ?_
  refine aw_iload_n 4 dX10_tells_39 rfl rfl ?_
  obtain ⟨o15, k⟩ := k
  obtain ⟨o16, k⟩ := k
  have q17 := sh_w e12 o10 o9
  refine aw_iast dX10_tells_40 q17 o15 (lt_l (ln_w e12 (h v0 23) o10) o16) ?_
  refine aw_hp (fun h2 e18 => ?_)
  have k := k h2 e18
  refine aw_aload_n 2 dX10_tells_41 rfl rfl ?_
  have q19 := sh_w e18 o15 q13
  refine aw_getR dX10_tells_42 fl_X10_71 rfl q19 (x := (h v0 23)) ((rd_a e18 v0 23 (ne_sh q17 q13 (by decide))).trans (rd_a e12 v0 23 (ne_sh o9 o3 (by decide)))) ?_
  refine aw_iload 0 dX10_tells_45 rfl ?_
  refine aw_iconst dX10_tells_47 ⟨by decide, by decide⟩ ?_
  obtain ⟨o20, k⟩ := k
  refine aw_iadd dX10_tells_48 o20 ?_
  refine aw_iload_n 5 dX10_tells_49 rfl rfl ?_
  obtain ⟨o21, k⟩ := k
  obtain ⟨o22, k⟩ := k
  have q23 := sh_w e18 o15 q17
  refine aw_iast dX10_tells_50 q23 o21 (lt_l ((ln_w e18 (h v0 23) o15).trans (ln_w e12 (h v0 23) o10)) o22) ?_
  refine aw_hp (fun h3 e24 => ?_)
  have k := k h3 e24
  refine aw_aload_n 2 dX10_tells_51 rfl rfl ?_
  have q25 := sh_w e24 o21 q19
  refine aw_getR dX10_tells_52 fl_X10_71 rfl q25 (x := (h v0 23)) ((rd_a e24 v0 23 (ne_sh q23 q19 (by decide))).trans ((rd_a e18 v0 23 (ne_sh q17 q13 (by decide))).trans (rd_a e12 v0 23 (ne_sh o9 o3 (by decide))))) ?_
  refine aw_iload 0 dX10_tells_55 rfl ?_
  refine aw_iconst dX10_tells_57 ⟨by decide, by decide⟩ ?_
  obtain ⟨o26, k⟩ := k
  refine aw_iadd dX10_tells_58 o26 ?_
  refine aw_iload 6 dX10_tells_59 rfl ?_
  obtain ⟨o27, k⟩ := k
  obtain ⟨o28, k⟩ := k
  have q29 := sh_w e24 o21 q23
  refine aw_iast dX10_tells_61 q29 o27 (lt_l ((ln_w e24 (h v0 23) o21).trans ((ln_w e18 (h v0 23) o15).trans (ln_w e12 (h v0 23) o10))) o28) ?_
  refine aw_hp (fun h4 e30 => ?_)
  have k := k h4 e30
  refine aw_aload_n 2 dX10_tells_62 rfl rfl ?_
  have q31 := sh_w e30 o27 q25
  refine aw_getR dX10_tells_63 fl_X10_71 rfl q31 (x := (h v0 23)) ((rd_a e30 v0 23 (ne_sh q29 q25 (by decide))).trans ((rd_a e24 v0 23 (ne_sh q23 q19 (by decide))).trans ((rd_a e18 v0 23 (ne_sh q17 q13 (by decide))).trans (rd_a e12 v0 23 (ne_sh o9 o3 (by decide)))))) ?_
  refine aw_iload 0 dX10_tells_66 rfl ?_
  refine aw_iconst dX10_tells_68 ⟨by decide, by decide⟩ ?_
  obtain ⟨o32, k⟩ := k
  refine aw_iadd dX10_tells_69 o32 ?_
  refine aw_iload 7 dX10_tells_70 rfl ?_
  obtain ⟨o33, k⟩ := k
  obtain ⟨o34, k⟩ := k
  have q35 := sh_w e30 o27 q29
  refine aw_iast dX10_tells_72 q35 o33 (lt_l ((ln_w e30 (h v0 23) o27).trans ((ln_w e24 (h v0 23) o21).trans ((ln_w e18 (h v0 23) o15).trans (ln_w e12 (h v0 23) o10)))) o34) ?_
  refine aw_hp (fun h5 e36 => ?_)
  have k := k h5 e36
  refine aw_aload_n 2 dX10_tells_73 rfl rfl ?_
  have q37 := sh_w e36 o33 q31
  refine aw_getR dX10_tells_74 fl_X10_77 rfl q37 (x := (h v0 25)) ((rd_a e36 v0 25 (ne_sh q35 q31 (by decide))).trans ((rd_a e30 v0 25 (ne_sh q29 q25 (by decide))).trans ((rd_a e24 v0 25 (ne_sh q23 q19 (by decide))).trans ((rd_a e18 v0 25 (ne_sh q17 q13 (by decide))).trans (rd_a e12 v0 25 (ne_sh o9 o3 (by decide))))))) ?_
  refine aw_iload 1 dX10_tells_77 rfl ?_
  refine aw_dup2 dX10_tells_79 rfl rfl ?_
  have q38 := sh_w e12 o10 o4
  have q39 := sh_w e18 o15 q38
  have q40 := sh_w e24 o21 q39
  have q41 := sh_w e30 o27 q40
  have q42 := sh_w e36 o33 q41
  refine aw_iald dX10_tells_80 q42 o5 (lt_l ((ln_w e36 (h v0 25) o33).trans ((ln_w e30 (h v0 25) o27).trans ((ln_w e24 (h v0 25) o21).trans ((ln_w e18 (h v0 25) o15).trans (ln_w e12 (h v0 25) o10))))) o6) (x := (h5 (h v0 25) (v1 % 2))) rfl ?_
  refine aw_iconst dX10_tells_81 ⟨by decide, by decide⟩ ?_
  obtain ⟨o43, k⟩ := k
  refine aw_iadd dX10_tells_82 o43 ?_
  refine aw_iast dX10_tells_83 q42 o5 (lt_l ((ln_w e36 (h v0 25) o33).trans ((ln_w e30 (h v0 25) o27).trans ((ln_w e24 (h v0 25) o21).trans ((ln_w e18 (h v0 25) o15).trans (ln_w e12 (h v0 25) o10))))) o6) ?_
  refine aw_hp (fun h6 e44 => ?_)
  have k := k h6 e44
  exact aw_vret dX10_tells_84 rfl k
theorem rn_X10_tells {G : GG} {Q : Option VV → Hp → Prop} {v0 v1 v2 v3 v4 v5 : Int} {h : Hp} (k : (0 ≤ v1) ∧ (inI (600 * (v1 % 2))) ∧ (h v0 (-1) = 11) ∧ (h (h v0 25) (-1) = 20) ∧ (0 ≤ (v1 % 2)) ∧ ((v1 % 2) < h (h v0 25) (-2)) ∧ (inI ((600 * (v1 % 2)) + (h (h v0 25) (v1 % 2)))) ∧ (inI (5 * ((600 * (v1 % 2)) + (h (h v0 25) (v1 % 2))))) ∧ (h (h v0 23) (-1) = 20) ∧ (0 ≤ (5 * ((600 * (v1 % 2)) + (h (h v0 25) (v1 % 2))))) ∧ ((5 * ((600 * (v1 % 2)) + (h (h v0 25) (v1 % 2)))) < h (h v0 23) (-2)) ∧ ∀ h1, h1 = wr h (h v0 23) (5 * ((600 * (v1 % 2)) + (h (h v0 25) (v1 % 2)))) v1 → (inI ((5 * ((600 * (v1 % 2)) + (h (h v0 25) (v1 % 2)))) + 1)) ∧ (0 ≤ ((5 * ((600 * (v1 % 2)) + (h (h v0 25) (v1 % 2)))) + 1)) ∧ (((5 * ((600 * (v1 % 2)) + (h (h v0 25) (v1 % 2)))) + 1) < h (h v0 23) (-2)) ∧ ∀ h2, h2 = wr h1 (h v0 23) ((5 * ((600 * (v1 % 2)) + (h (h v0 25) (v1 % 2)))) + 1) v2 → (inI ((5 * ((600 * (v1 % 2)) + (h (h v0 25) (v1 % 2)))) + 2)) ∧ (0 ≤ ((5 * ((600 * (v1 % 2)) + (h (h v0 25) (v1 % 2)))) + 2)) ∧ (((5 * ((600 * (v1 % 2)) + (h (h v0 25) (v1 % 2)))) + 2) < h (h v0 23) (-2)) ∧ ∀ h3, h3 = wr h2 (h v0 23) ((5 * ((600 * (v1 % 2)) + (h (h v0 25) (v1 % 2)))) + 2) v3 → (inI ((5 * ((600 * (v1 % 2)) + (h (h v0 25) (v1 % 2)))) + 3)) ∧ (0 ≤ ((5 * ((600 * (v1 % 2)) + (h (h v0 25) (v1 % 2)))) + 3)) ∧ (((5 * ((600 * (v1 % 2)) + (h (h v0 25) (v1 % 2)))) + 3) < h (h v0 23) (-2)) ∧ ∀ h4, h4 = wr h3 (h v0 23) ((5 * ((600 * (v1 % 2)) + (h (h v0 25) (v1 % 2)))) + 3) v4 → (inI ((5 * ((600 * (v1 % 2)) + (h (h v0 25) (v1 % 2)))) + 4)) ∧ (0 ≤ ((5 * ((600 * (v1 % 2)) + (h (h v0 25) (v1 % 2)))) + 4)) ∧ (((5 * ((600 * (v1 % 2)) + (h (h v0 25) (v1 % 2)))) + 4) < h (h v0 23) (-2)) ∧ ∀ h5, h5 = wr h4 (h v0 23) ((5 * ((600 * (v1 % 2)) + (h (h v0 25) (v1 % 2)))) + 4) v5 → (inI ((h5 (h v0 25) (v1 % 2)) + 1)) ∧ ∀ h6, h6 = wr h5 (h v0 25) (v1 % 2) ((h5 (h v0 25) (v1 % 2)) + 1) → Q none h6) : Runs G mm_X10_tells [vR v0, vI v1, vI v2, vI v3, vI v4, vI v5] h Q := Runs.of (by decide +kernel) (Nat.le_of_ble_eq_true rfl) (sg_X10_tells_0 (b := (0, 0)) k)
set_option maxRecDepth 20000 in
theorem sg_X10_tellsAgain_0 {G : GG} {b : Nat × Nat} {Q : Option VV → Hp → Prop} {v0 v1 v2 : Int} {h : Hp} (k : AW G mm_X10_tellsAgain b 2 [(0, vR v0), (1, vI v1), (2, vI v2), (3, vI 0)] [] h Q) : AW G mm_X10_tellsAgain b 0 [(0, vR v0), (1, vI v1), (2, vI v2)] [] h Q := by
  refine aw_iconst dX10_tellsAgain_0 ⟨by decide, by decide⟩ ?_
  refine aw_istore_n dX10_tellsAgain_1 rfl (by decide) ?_
  exact aw_sub [1, 2, 3, 0] rfl k
theorem rn_X10_tellsAgain {G : GG} {Q : Option VV → Hp → Prop} {v0 v1 v2 : Int} {h : Hp} (k : AW G mm_X10_tellsAgain (0, 0) 2 [(0, vR v0), (1, vI v1), (2, vI v2), (3, vI 0)] [] h Q) : Runs G mm_X10_tellsAgain [vR v0, vI v1, vI v2] h Q := Runs.of (by decide +kernel) (Nat.le_of_ble_eq_true rfl) (sg_X10_tellsAgain_0 (b := (0, 0)) k)
set_option maxRecDepth 20000 in
theorem sg_X10_tellsAgain_2 {G : GG} {b : Nat × Nat} {Q : Option VV → Hp → Prop} {v0 v1 v2 v3 : Int} {h : Hp} (k : (h v0 (-1) = 11) ∧ (h (h v0 14) (-1) = 20) ∧ (0 ≤ v1) ∧ (v1 < h (h v0 14) (-2)) ∧ (((h (h v0 14) v1) ≤ v3) → Q none h) ∧ ((¬ ((h (h v0 14) v1) ≤ v3)) → (inI (4 * v1)) ∧ (inI (2 * v3)) ∧ (inI ((4 * v1) + (2 * v3))) ∧ (h (h v0 15) (-1) = 20) ∧ (0 ≤ ((4 * v1) + (2 * v3))) ∧ (((4 * v1) + (2 * v3)) < h (h v0 15) (-2)) ∧ ((¬ (h (h v0 15) ((4 * v1) + (2 * v3))) = v2) → (inI (v3 + 1)) ∧ AW G mm_X10_tellsAgain b 2 [(0, vR v0), (1, vI v1), (2, vI v2), (3, vI (v3 + 1))] [] h Q) ∧ (((h (h v0 15) ((4 * v1) + (2 * v3))) = v2) → (inI (((4 * v1) + (2 * v3)) + 1)) ∧ (0 ≤ (((4 * v1) + (2 * v3)) + 1)) ∧ ((((4 * v1) + (2 * v3)) + 1) < h (h v0 15) (-2)) ∧ Runs G mm_X10_sends [vR v0, vI v1, vI 1, vI v2, vI (h (h v0 15) (((4 * v1) + (2 * v3)) + 1)), vI (-1)] h (fun r h' => AW G mm_X10_tellsAgain b 50 [(0, vR v0), (1, vI v1), (2, vI v2), (3, vI v3)] (r.toList ++ []) h' Q)))) : AW G mm_X10_tellsAgain b 2 [(0, vR v0), (1, vI v1), (2, vI v2), (3, vI v3)] [] h Q := by
  refine aw_iload_n 3 dX10_tellsAgain_2 rfl rfl ?_
  refine aw_aload_n 0 dX10_tellsAgain_3 rfl rfl ?_
  obtain ⟨o1, k⟩ := k
  refine aw_getR dX10_tellsAgain_4 fl_X10_53 rfl o1 (x := (h v0 14)) rfl ?_
  refine aw_iload_n 1 dX10_tellsAgain_7 rfl rfl ?_
  obtain ⟨o2, k⟩ := k
  obtain ⟨o3, k⟩ := k
  obtain ⟨o4, k⟩ := k
  refine aw_iald dX10_tellsAgain_8 o2 o3 o4 (x := (h (h v0 14) v1)) rfl ?_
  refine aw_icmp_ge (tgt := 56) dX10_tellsAgain_9 (by decide) (fun hc => ?_) (fun hc => ?_)
  · have k := k.1 hc
    exact aw_vret dX10_tellsAgain_56 rfl k
  · have k := k.2 hc
    refine aw_aload_n 0 dX10_tellsAgain_12 rfl rfl ?_
    refine aw_getR dX10_tellsAgain_13 fl_X10_56 rfl o1 (x := (h v0 15)) rfl ?_
    refine aw_iconst dX10_tellsAgain_16 ⟨by decide, by decide⟩ ?_
    refine aw_iload_n 1 dX10_tellsAgain_17 rfl rfl ?_
    obtain ⟨o5, k⟩ := k
    refine aw_imul dX10_tellsAgain_18 o5 ?_
    refine aw_iconst dX10_tellsAgain_19 ⟨by decide, by decide⟩ ?_
    refine aw_iload_n 3 dX10_tellsAgain_20 rfl rfl ?_
    obtain ⟨o6, k⟩ := k
    refine aw_imul dX10_tellsAgain_21 o6 ?_
    obtain ⟨o7, k⟩ := k
    refine aw_iadd dX10_tellsAgain_22 o7 ?_
    obtain ⟨o8, k⟩ := k
    obtain ⟨o9, k⟩ := k
    obtain ⟨o10, k⟩ := k
    refine aw_iald dX10_tellsAgain_23 o8 o9 o10 (x := (h (h v0 15) ((4 * v1) + (2 * v3)))) rfl ?_
    refine aw_iload_n 2 dX10_tellsAgain_24 rfl rfl ?_
    refine aw_icmp_ne (tgt := 50) dX10_tellsAgain_25 (by decide) (fun hc => ?_) (fun hc => ?_)
    · have k := k.1 hc
      obtain ⟨o11, k⟩ := k
      refine aw_iinc 3 dX10_tellsAgain_50 rfl o11 (by decide) ?_
      refine aw_goto (tgt := 2) dX10_tellsAgain_53 (by decide) ?_
      exact aw_sub [1, 2, 3, 0] rfl k
    · have k := k.2 hc
      refine aw_aload_n 0 dX10_tellsAgain_28 rfl rfl ?_
      refine aw_iload_n 1 dX10_tellsAgain_29 rfl rfl ?_
      refine aw_iconst dX10_tellsAgain_30 ⟨by decide, by decide⟩ ?_
      refine aw_iload_n 2 dX10_tellsAgain_31 rfl rfl ?_
      refine aw_aload_n 0 dX10_tellsAgain_32 rfl rfl ?_
      refine aw_getR dX10_tellsAgain_33 fl_X10_56 rfl o1 (x := (h v0 15)) rfl ?_
      refine aw_iconst dX10_tellsAgain_36 ⟨by decide, by decide⟩ ?_
      refine aw_iload_n 1 dX10_tellsAgain_37 rfl rfl ?_
      refine aw_imul dX10_tellsAgain_38 o5 ?_
      refine aw_iconst dX10_tellsAgain_39 ⟨by decide, by decide⟩ ?_
      refine aw_iload_n 3 dX10_tellsAgain_40 rfl rfl ?_
      refine aw_imul dX10_tellsAgain_41 o6 ?_
      refine aw_iadd dX10_tellsAgain_42 o7 ?_
      refine aw_iconst dX10_tellsAgain_43 ⟨by decide, by decide⟩ ?_
      obtain ⟨o12, k⟩ := k
      refine aw_iadd dX10_tellsAgain_44 o12 ?_
      obtain ⟨o13, k⟩ := k
      obtain ⟨o14, k⟩ := k
      refine aw_iald dX10_tellsAgain_45 o8 o13 o14 (x := (h (h v0 15) (((4 * v1) + (2 * v3)) + 1))) rfl ?_
      refine aw_iconst dX10_tellsAgain_46 ⟨by decide, by decide⟩ ?_
      refine aw_callV (M' := mm_X10_sends) 10 [vI v1, vI 1, vI v2, vI (h (h v0 15) (((4 * v1) + (2 * v3)) + 1)), vI (-1)] [] lk_X10_248 ⟨_, rfl, rfl⟩ dX10_tellsAgain_47 rfl (Nat.le_of_ble_eq_true rfl) ⟨by decide, by decide, Nat.zero_le _, Nat.zero_le _⟩ o1 ?_
      exact k
set_option maxRecDepth 20000 in
theorem sg_X10_tellsAgain_50 {G : GG} {b : Nat × Nat} {Q : Option VV → Hp → Prop} {v0 v1 v2 v3 : Int} {h : Hp} (k : (inI (v3 + 1)) ∧ AW G mm_X10_tellsAgain b 2 [(0, vR v0), (1, vI v1), (2, vI v2), (3, vI (v3 + 1))] [] h Q) : AW G mm_X10_tellsAgain b 50 [(0, vR v0), (1, vI v1), (2, vI v2), (3, vI v3)] [] h Q := by
  obtain ⟨o1, k⟩ := k
  refine aw_iinc 3 dX10_tellsAgain_50 rfl o1 (by decide) ?_
  refine aw_goto (tgt := 2) dX10_tellsAgain_53 (by decide) ?_
  exact aw_sub [1, 2, 3, 0] rfl k
set_option maxRecDepth 20000 in
theorem sg_X10_tellsOldest_0 {G : GG} {b : Nat × Nat} {Q : Option VV → Hp → Prop} {v0 v1 v2 v3 : Int} {h : Hp} (k : (inI (28 * v1)) ∧ (h v0 (-1) = 11) ∧ (inI ((28 * v1) + 1)) ∧ (h (h v0 7) (-1) = 20) ∧ (0 ≤ ((28 * v1) + 1)) ∧ (((28 * v1) + 1) < h (h v0 7) (-2)) ∧ (inI ((28 * v1) + 0)) ∧ (0 ≤ ((28 * v1) + 0)) ∧ (((28 * v1) + 0) < h (h v0 7) (-2)) ∧ Runs G mm_X10_tells [vR v0, vI v1, vI (h (h v0 7) ((28 * v1) + 1)), vI (h (h v0 7) ((28 * v1) + 0)), vI v2, vI v3] h (fun r h' => AW G mm_X10_tellsOldest b 31 [(0, vR v0), (1, vI v1), (4, vI (28 * v1))] (r.toList ++ []) h' Q)) : AW G mm_X10_tellsOldest b 0 [(0, vR v0), (1, vI v1), (2, vI v2), (3, vI v3)] [] h Q := by
  refine aw_bipush dX10_tellsOldest_0 ⟨by decide, by decide⟩ (by decide) ?_
  refine aw_iload_n 1 dX10_tellsOldest_2 rfl rfl ?_
  obtain ⟨o1, k⟩ := k
  refine aw_imul dX10_tellsOldest_3 o1 ?_
  refine aw_istore dX10_tellsOldest_4 (by decide) ?_
  refine aw_aload_n 1 dX10_tellsOldest_6 rfl rfl ?_
  refine aw_iload_n 2 dX10_tellsOldest_7 rfl rfl ?_
  refine aw_aload_n 1 dX10_tellsOldest_8 rfl rfl ?_
  obtain ⟨o2, k⟩ := k
  refine aw_getR dX10_tellsOldest_9 fl_X10_31 rfl o2 (x := (h v0 7)) rfl ?_
  refine aw_iload 0 dX10_tellsOldest_12 rfl ?_
  refine aw_iconst dX10_tellsOldest_14 ⟨by decide, by decide⟩ ?_
  obtain ⟨o3, k⟩ := k
  refine aw_iadd dX10_tellsOldest_15 o3 ?_
  obtain ⟨o4, k⟩ := k
  obtain ⟨o5, k⟩ := k
  obtain ⟨o6, k⟩ := k
  refine aw_iald dX10_tellsOldest_16 o4 o5 o6 (x := (h (h v0 7) ((28 * v1) + 1))) rfl ?_
  refine aw_aload_n 1 dX10_tellsOldest_17 rfl rfl ?_
  refine aw_getR dX10_tellsOldest_18 fl_X10_31 rfl o2 (x := (h v0 7)) rfl ?_
  refine aw_iload 0 dX10_tellsOldest_21 rfl ?_
  refine aw_iconst dX10_tellsOldest_23 ⟨by decide, by decide⟩ ?_
  obtain ⟨o7, k⟩ := k
  refine aw_iadd dX10_tellsOldest_24 o7 ?_
  obtain ⟨o8, k⟩ := k
  obtain ⟨o9, k⟩ := k
  refine aw_iald dX10_tellsOldest_25 o4 o8 o9 (x := (h (h v0 7) ((28 * v1) + 0))) rfl ?_
  refine aw_iload_n 3 dX10_tellsOldest_26 rfl rfl ?_
  refine aw_iload_n 4 dX10_tellsOldest_27 rfl rfl ?_
  refine aw_callV (M' := mm_X10_tells) 10 [vI v1, vI (h (h v0 7) ((28 * v1) + 1)), vI (h (h v0 7) ((28 * v1) + 0)), vI v2, vI v3] [] lk_X10_241 ⟨_, rfl, rfl⟩ dX10_tellsOldest_28 rfl (Nat.le_of_ble_eq_true rfl) ⟨by decide, by decide, Nat.zero_le _, Nat.zero_le _⟩ o2 ?_
  exact k.mono (fun _ _ z => aw_sub [1, 2, 0] rfl z)
theorem rn_X10_tellsOldest {G : GG} {Q : Option VV → Hp → Prop} {v0 v1 v2 v3 : Int} {h : Hp} (k : (inI (28 * v1)) ∧ (h v0 (-1) = 11) ∧ (inI ((28 * v1) + 1)) ∧ (h (h v0 7) (-1) = 20) ∧ (0 ≤ ((28 * v1) + 1)) ∧ (((28 * v1) + 1) < h (h v0 7) (-2)) ∧ (inI ((28 * v1) + 0)) ∧ (0 ≤ ((28 * v1) + 0)) ∧ (((28 * v1) + 0) < h (h v0 7) (-2)) ∧ Runs G mm_X10_tells [vR v0, vI v1, vI (h (h v0 7) ((28 * v1) + 1)), vI (h (h v0 7) ((28 * v1) + 0)), vI v2, vI v3] h (fun r h' => AW G mm_X10_tellsOldest (0, 0) 31 [(0, vR v0), (1, vI v1), (4, vI (28 * v1))] (r.toList ++ []) h' Q)) : Runs G mm_X10_tellsOldest [vR v0, vI v1, vI v2, vI v3] h Q := Runs.of (by decide +kernel) (Nat.le_of_ble_eq_true rfl) (sg_X10_tellsOldest_0 (b := (0, 0)) k)
set_option maxRecDepth 20000 in
theorem sg_X10_tellsOldest_31 {G : GG} {b : Nat × Nat} {Q : Option VV → Hp → Prop} {v0 v1 v4 : Int} {h : Hp} (k : (h v0 (-1) = 11) ∧ (h (h v0 6) (-1) = 20) ∧ (0 ≤ v1) ∧ (v1 < h (h v0 6) (-2)) ∧ (inI ((h (h v0 6) v1) - 1)) ∧ ∀ h1, h1 = wr h (h v0 6) v1 ((h (h v0 6) v1) - 1) → AW G mm_X10_tellsOldest b 44 [(0, vR v0), (1, vI v1), (4, vI v4), (5, vI 0)] [] h1 Q) : AW G mm_X10_tellsOldest b 31 [(0, vR v0), (1, vI v1), (4, vI v4)] [] h Q := by
  refine aw_aload_n 0 dX10_tellsOldest_31 rfl rfl ?_
  obtain ⟨o1, k⟩ := k
  refine aw_getR dX10_tellsOldest_32 fl_X10_28 rfl o1 (x := (h v0 6)) rfl ?_
  refine aw_iload_n 1 dX10_tellsOldest_35 rfl rfl ?_
  refine aw_dup2 dX10_tellsOldest_36 rfl rfl ?_
  obtain ⟨o2, k⟩ := k
  obtain ⟨o3, k⟩ := k
  obtain ⟨o4, k⟩ := k
  refine aw_iald dX10_tellsOldest_37 o2 o3 o4 (x := (h (h v0 6) v1)) rfl ?_
  refine aw_iconst dX10_tellsOldest_38 ⟨by decide, by decide⟩ ?_
  obtain ⟨o5, k⟩ := k
  refine aw_isub dX10_tellsOldest_39 o5 ?_
  refine aw_iast dX10_tellsOldest_40 o2 o3 o4 ?_
  refine aw_hp (fun h1 e6 => ?_)
  have k := k h1 e6
  refine aw_iconst dX10_tellsOldest_41 ⟨by decide, by decide⟩ ?_
  refine aw_istore dX10_tellsOldest_42 (by decide) ?_
  exact aw_sub [1, 2, 3, 0] rfl k
set_option maxRecDepth 20000 in
theorem sg_X10_tellsOldest_44 {G : GG} {b : Nat × Nat} {Q : Option VV → Hp → Prop} {v0 v1 v4 v5 : Int} {h : Hp} (k : (h v0 (-1) = 11) ∧ (h (h v0 6) (-1) = 20) ∧ (0 ≤ v1) ∧ (v1 < h (h v0 6) (-2)) ∧ (inI (7 * (h (h v0 6) v1))) ∧ (((7 * (h (h v0 6) v1)) ≤ v5) → (h (h v0 11) (-1) = 20) ∧ (v1 < h (h v0 11) (-2)) ∧ ∀ h1, h1 = wr h (h v0 11) v1 0 → (h (h v0 12) (-1) = 20) ∧ (v1 < h (h v0 12) (-2)) ∧ ∀ h2, h2 = wr h1 (h v0 12) v1 0 → Q none h2) ∧ ((¬ ((7 * (h (h v0 6) v1)) ≤ v5)) → (inI (v4 + v5)) ∧ (inI (v4 + 7)) ∧ (inI ((v4 + 7) + v5)) ∧ (h (h v0 7) (-1) = 20) ∧ (0 ≤ ((v4 + 7) + v5)) ∧ (((v4 + 7) + v5) < h (h v0 7) (-2)) ∧ (0 ≤ (v4 + v5)) ∧ ((v4 + v5) < h (h v0 7) (-2)) ∧ ∀ h1, h1 = wr h (h v0 7) (v4 + v5) (h (h v0 7) ((v4 + 7) + v5)) → (inI (v5 + 1)) ∧ AW G mm_X10_tellsOldest b 44 [(0, vR v0), (1, vI v1), (4, vI v4), (5, vI (v5 + 1))] [] h1 Q)) : AW G mm_X10_tellsOldest b 44 [(0, vR v0), (1, vI v1), (4, vI v4), (5, vI v5)] [] h Q := by
  refine aw_iload 3 dX10_tellsOldest_44 rfl ?_
  refine aw_bipush dX10_tellsOldest_46 ⟨by decide, by decide⟩ (by decide) ?_
  refine aw_aload_n 0 dX10_tellsOldest_48 rfl rfl ?_
  obtain ⟨o1, k⟩ := k
  refine aw_getR dX10_tellsOldest_49 fl_X10_28 rfl o1 (x := (h v0 6)) rfl ?_
  refine aw_iload_n 1 dX10_tellsOldest_52 rfl rfl ?_
  obtain ⟨o2, k⟩ := k
  obtain ⟨o3, k⟩ := k
  obtain ⟨o4, k⟩ := k
  refine aw_iald dX10_tellsOldest_53 o2 o3 o4 (x := (h (h v0 6) v1)) rfl ?_
  obtain ⟨o5, k⟩ := k
  refine aw_imul dX10_tellsOldest_54 o5 ?_
  refine aw_icmp_ge (tgt := 87) dX10_tellsOldest_55 (by decide) (fun hc => ?_) (fun hc => ?_)
  · have k := k.1 hc
    refine aw_aload_n 0 dX10_tellsOldest_87 rfl rfl ?_
    refine aw_getR dX10_tellsOldest_88 fl_X10_43 rfl o1 (x := (h v0 11)) rfl ?_
    refine aw_iload_n 1 dX10_tellsOldest_91 rfl rfl ?_
    refine aw_iconst dX10_tellsOldest_92 ⟨by decide, by decide⟩ ?_
    obtain ⟨o6, k⟩ := k
    obtain ⟨o7, k⟩ := k
    refine aw_iast dX10_tellsOldest_93 o6 o3 o7 ?_
    refine aw_hp (fun h1 e8 => ?_)
    have k := k h1 e8
    refine aw_aload_n 0 dX10_tellsOldest_94 rfl rfl ?_
    have q9 := sh_w e8 o3 o1
    refine aw_getR dX10_tellsOldest_95 fl_X10_46 rfl q9 (x := (h v0 12)) (rd_a e8 v0 12 (ne_sh o6 o1 (by decide))) ?_
    refine aw_iload_n 1 dX10_tellsOldest_98 rfl rfl ?_
    refine aw_iconst dX10_tellsOldest_99 ⟨by decide, by decide⟩ ?_
    obtain ⟨o10, k⟩ := k
    obtain ⟨o11, k⟩ := k
    have q12 := sh_w e8 o3 o10
    refine aw_iast dX10_tellsOldest_100 q12 o3 (lt_l (ln_w e8 (h v0 12) o3) o11) ?_
    refine aw_hp (fun h2 e13 => ?_)
    have k := k h2 e13
    exact aw_vret dX10_tellsOldest_101 rfl k
  · have k := k.2 hc
    refine aw_aload_n 0 dX10_tellsOldest_58 rfl rfl ?_
    refine aw_getR dX10_tellsOldest_59 fl_X10_31 rfl o1 (x := (h v0 7)) rfl ?_
    refine aw_iload 2 dX10_tellsOldest_62 rfl ?_
    refine aw_iload 3 dX10_tellsOldest_64 rfl ?_
    obtain ⟨o14, k⟩ := k
    refine aw_iadd dX10_tellsOldest_66 o14 ?_
    refine aw_aload_n 0 dX10_tellsOldest_67 rfl rfl ?_
    refine aw_getR dX10_tellsOldest_68 fl_X10_31 rfl o1 (x := (h v0 7)) rfl ?_
    refine aw_iload 2 dX10_tellsOldest_71 rfl ?_
    refine aw_bipush dX10_tellsOldest_73 ⟨by decide, by decide⟩ (by decide) ?_
    obtain ⟨o15, k⟩ := k
    refine aw_iadd dX10_tellsOldest_75 o15 ?_
    refine aw_iload 3 dX10_tellsOldest_76 rfl ?_
    obtain ⟨o16, k⟩ := k
    refine aw_iadd dX10_tellsOldest_78 o16 ?_
    obtain ⟨o17, k⟩ := k
    obtain ⟨o18, k⟩ := k
    obtain ⟨o19, k⟩ := k
    refine aw_iald dX10_tellsOldest_79 o17 o18 o19 (x := (h (h v0 7) ((v4 + 7) + v5))) rfl ?_
    obtain ⟨o20, k⟩ := k
    obtain ⟨o21, k⟩ := k
    refine aw_iast dX10_tellsOldest_80 o17 o20 o21 ?_
    refine aw_hp (fun h1 e22 => ?_)
    have k := k h1 e22
    obtain ⟨o23, k⟩ := k
    refine aw_iinc 3 dX10_tellsOldest_81 rfl o23 (by decide) ?_
    refine aw_goto (tgt := 44) dX10_tellsOldest_84 (by decide) ?_
    exact aw_sub [1, 2, 3, 0] rfl k
set_option maxRecDepth 20000 in
theorem sg_X10_tick_0 {G : GG} {b : Nat × Nat} {Q : Option VV → Hp → Prop} {v0 v1 : Int} {h : Hp} (k : ((0 ≤ v1 ∧ v1 ≤ 3) → (h v0 (-1) = 11) ∧ (h (h v0 4) (-1) = 20) ∧ (0 ≤ v1) ∧ (v1 < h (h v0 4) (-2)) ∧ ((¬ (h (h v0 4) v1) = 1) → Q (some (vI (-1003))) h) ∧ (((h (h v0 4) v1) = 1) → (h (h v0 6) (-1) = 20) ∧ (v1 < h (h v0 6) (-2)) ∧ ((¬ (h (h v0 6) v1) = 0) → Runs G mm_X10_again [vR v0, vI v1] h (fun r h' => AW G mm_X10_tick b 39 [(0, vR v0), (1, vI v1)] (r.toList ++ []) h' Q)) ∧ (((h (h v0 6) v1) = 0) → Q (some (vI (-1003))) h))) ∧ ((¬ (0 ≤ v1 ∧ v1 ≤ 3)) → Q (some (vI (-1001))) h)) : AW G mm_X10_tick b 0 [(0, vR v0), (1, vI v1)] [] h Q := by
  refine aw_iload_n 1 dX10_tick_0 rfl rfl ?_
  refine aw_callS (M' := mm_X10_isEnd) [vI v1] [] lk_X10_220 dX10_tick_1 rfl (Nat.le_of_ble_eq_true rfl) ⟨by decide, by decide, Nat.zero_le _, Nat.zero_le _⟩ ?_
  refine pu_X10_isEnd ?_
  refine aw_if_ne (tgt := 11) dX10_tick_4 (by decide) (fun hc => ?_) (fun hc => ?_)
  · have k := k.1 (b2i_n.mp hc)
    refine aw_aload_n 0 dX10_tick_11 rfl rfl ?_
    obtain ⟨o1, k⟩ := k
    refine aw_getR dX10_tick_12 fl_X10_22 rfl o1 (x := (h v0 4)) rfl ?_
    refine aw_iload_n 1 dX10_tick_15 rfl rfl ?_
    obtain ⟨o2, k⟩ := k
    obtain ⟨o3, k⟩ := k
    obtain ⟨o4, k⟩ := k
    refine aw_iald dX10_tick_16 o2 o3 o4 (x := (h (h v0 4) v1)) rfl ?_
    refine aw_iconst dX10_tick_17 ⟨by decide, by decide⟩ ?_
    refine aw_icmp_ne (tgt := 30) dX10_tick_18 (by decide) (fun hc => ?_) (fun hc => ?_)
    · have k := k.1 hc
      refine aw_sipush dX10_tick_30 ⟨by decide, by decide⟩ (by decide) ?_
      exact aw_iret dX10_tick_33 rfl k
    · have k := k.2 hc
      refine aw_aload_n 0 dX10_tick_21 rfl rfl ?_
      refine aw_getR dX10_tick_22 fl_X10_28 rfl o1 (x := (h v0 6)) rfl ?_
      refine aw_iload_n 1 dX10_tick_25 rfl rfl ?_
      obtain ⟨o5, k⟩ := k
      obtain ⟨o6, k⟩ := k
      refine aw_iald dX10_tick_26 o5 o3 o6 (x := (h (h v0 6) v1)) rfl ?_
      refine aw_if_ne (tgt := 34) dX10_tick_27 (by decide) (fun hc => ?_) (fun hc => ?_)
      · have k := k.1 hc
        refine aw_aload_n 0 dX10_tick_34 rfl rfl ?_
        refine aw_iload_n 1 dX10_tick_35 rfl rfl ?_
        refine aw_callV (M' := mm_X10_again) 10 [vI v1] [] lk_X10_279 ⟨_, rfl, rfl⟩ dX10_tick_36 rfl (Nat.le_of_ble_eq_true rfl) ⟨by decide, by decide, Nat.zero_le _, Nat.zero_le _⟩ o1 ?_
        exact k
      · have k := k.2 hc
        refine aw_sipush dX10_tick_30 ⟨by decide, by decide⟩ (by decide) ?_
        exact aw_iret dX10_tick_33 rfl k
  · have k := k.2 (b2i_0.mp hc)
    refine aw_sipush dX10_tick_7 ⟨by decide, by decide⟩ (by decide) ?_
    exact aw_iret dX10_tick_10 rfl k
theorem rn_X10_tick {G : GG} {Q : Option VV → Hp → Prop} {v0 v1 : Int} {h : Hp} (k : ((0 ≤ v1 ∧ v1 ≤ 3) → (h v0 (-1) = 11) ∧ (h (h v0 4) (-1) = 20) ∧ (0 ≤ v1) ∧ (v1 < h (h v0 4) (-2)) ∧ ((¬ (h (h v0 4) v1) = 1) → Q (some (vI (-1003))) h) ∧ (((h (h v0 4) v1) = 1) → (h (h v0 6) (-1) = 20) ∧ (v1 < h (h v0 6) (-2)) ∧ ((¬ (h (h v0 6) v1) = 0) → Runs G mm_X10_again [vR v0, vI v1] h (fun r h' => AW G mm_X10_tick (0, 0) 39 [(0, vR v0), (1, vI v1)] (r.toList ++ []) h' Q)) ∧ (((h (h v0 6) v1) = 0) → Q (some (vI (-1003))) h))) ∧ ((¬ (0 ≤ v1 ∧ v1 ≤ 3)) → Q (some (vI (-1001))) h)) : Runs G mm_X10_tick [vR v0, vI v1] h Q := Runs.of (by decide +kernel) (Nat.le_of_ble_eq_true rfl) (sg_X10_tick_0 (b := (0, 0)) k)
set_option maxRecDepth 20000 in
theorem sg_X10_tick_39 {G : GG} {b : Nat × Nat} {Q : Option VV → Hp → Prop} {v0 v1 : Int} {h : Hp} (k : (h v0 (-1) = 11) ∧ (h (h v0 4) (-1) = 20) ∧ (0 ≤ v1) ∧ (v1 < h (h v0 4) (-2)) ∧ ((¬ (h (h v0 4) v1) = 1) → Q (some (vI 0)) h) ∧ (((h (h v0 4) v1) = 1) → (h (h v0 11) (-1) = 20) ∧ (v1 < h (h v0 11) (-2)) ∧ Q (some (vI (h (h v0 11) v1))) h)) : AW G mm_X10_tick b 39 [(0, vR v0), (1, vI v1)] [] h Q := by
  refine aw_aload_n 0 dX10_tick_39 rfl rfl ?_
  obtain ⟨o1, k⟩ := k
  refine aw_getR dX10_tick_40 fl_X10_22 rfl o1 (x := (h v0 4)) rfl ?_
  refine aw_iload_n 1 dX10_tick_43 rfl rfl ?_
  obtain ⟨o2, k⟩ := k
  obtain ⟨o3, k⟩ := k
  obtain ⟨o4, k⟩ := k
  refine aw_iald dX10_tick_44 o2 o3 o4 (x := (h (h v0 4) v1)) rfl ?_
  refine aw_iconst dX10_tick_45 ⟨by decide, by decide⟩ ?_
  refine aw_icmp_ne (tgt := 58) dX10_tick_46 (by decide) (fun hc => ?_) (fun hc => ?_)
  · have k := k.1 hc
    refine aw_iconst dX10_tick_58 ⟨by decide, by decide⟩ ?_
    exact aw_iret dX10_tick_59 rfl k
  · have k := k.2 hc
    refine aw_aload_n 0 dX10_tick_49 rfl rfl ?_
    refine aw_getR dX10_tick_50 fl_X10_43 rfl o1 (x := (h v0 11)) rfl ?_
    refine aw_iload_n 1 dX10_tick_53 rfl rfl ?_
    obtain ⟨o5, k⟩ := k
    obtain ⟨o6, k⟩ := k
    refine aw_iald dX10_tick_54 o5 o3 o6 (x := (h (h v0 11) v1)) rfl ?_
    refine aw_goto (tgt := 59) dX10_tick_55 (by decide) ?_
    exact aw_iret dX10_tick_59 rfl k
