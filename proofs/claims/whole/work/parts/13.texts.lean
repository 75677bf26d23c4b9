/-! texts and the script: rows, and the JDK's own methods on texts -/
theorem adr_neg {G : GG} {a : Int} (h : a < 0) : adr G a = gN G a := if_pos h
theorem i_L {L : Nat} (h : L < 2147483648) : Int32.ofNat L = Int32.ofInt (L : Int) := rfl
section AT
variable {G : GG} {M : MT} {b : Nat × Nat} {pc : Nat} {ls : List (Nat × VV)} {st : List VV} {h : Hp} {Z : LZ}
theorem aw_ldcS {idx : Nat} (i : Nat) {tx : String} (hi : txR[i]? = some (idx, tx)) (ho : (mY M).cls = RX6) (hd : decode (mC M) pc = .ok (.ldc idx, 2)) (hx : inI (-2 - (i : Int))) (k : AZ G M b (pc + 2) ls (vR (-2 - (i : Int)) :: st) h Z) : AZ G M b pc ls st h Z := by
  intro p e s m args below meth c H locs cells slots la C K R o1 o2 L S B c1 c2
  have W1 := k p e s m args below meth c H locs cells slots la C K R o1 (i_cons hx o2) L S B c1 c2
  rw [List.map_cons, cv_ref (by omega), adr_neg (by omega)] at W1
  have ho2 : s.vm.findClass RX6 = some m.cls := by rw [← ho]; exact C.2.2.2.2.1
  exact va_ldcS C.1 C.2.1 ho2 (K.2.2.1.2.1 i _ hi) hd W1
theorem aw_gval {idx i : Nat} (hi : i < 6) (hl : Cond.fieldLink (mY M).cls idx "java/lang/String" "value" "[B" ∈ gw) (hd : decode (mC M) pc = .ok (.getfield idx, 3)) (k : AZ G M b (pc + 3) ls (vR (-10 - (i : Int)) :: st) h Z) : AZ G M b pc ls (vR (-2 - (i : Int)) :: st) h Z := by
  intro p e s m args below meth c H locs cells slots la C K R o1 o2 L S B c1 c2
  have W1 := k p e s m args below meth c H locs cells slots la C K R o1 (i_cons ⟨by omega, by omega⟩ (i_tail o2)) L S B c1 c2
  rw [List.map_cons, cv_ref (by omega), adr_neg (by omega)] at W1
  rw [List.map_cons, cv_ref (by omega), adr_neg (by omega)]
  exact vk_getf C.1 C.2.1 (K.2.2.1.1.1 i hi).2.2.1 S C.2.2.2.2.1 (C.2.2.2.2.2.1 _ hl) (fun _ z => z) hd W1
theorem aw_gcod {idx i : Nat} (hi : i < 6) (hl : Cond.fieldLink (mY M).cls idx "java/lang/String" "coder" "B" ∈ gw) (hd : decode (mC M) pc = .ok (.getfield idx, 3)) (k : AZ G M b (pc + 3) ls (vI 0 :: st) h Z) : AZ G M b pc ls (vR (-2 - (i : Int)) :: st) h Z := by
  intro p e s m args below meth c H locs cells slots la C K R o1 o2 L S B c1 c2
  have W1 := k p e s m args below meth c H locs cells slots la C K R o1 (i_cons inI_0 (i_tail o2)) L S B c1 c2
  rw [List.map_cons, cv_ref (by omega), adr_neg (by omega)]
  exact vk_getf C.1 C.2.1 (K.2.2.1.1.1 i hi).2.1 S C.2.2.2.2.1 (C.2.2.2.2.2.1 _ hl) (fun _ z => z) hd W1
theorem aw_gst {idx : Nat} (hl : Cond.fieldLink (mY M).cls idx "java/lang/String" "COMPACT_STRINGS" "Z" ∈ gw) (hd : decode (mC M) pc = .ok (.getstatic idx, 3)) (k : AZ G M b (pc + 3) ls (vI 1 :: st) h Z) : AZ G M b pc ls st h Z := by
  intro p e s m args below meth c H locs cells slots la C K R o1 o2 L S B c1 c2
  have W1 := k p e s m args below meth c H locs cells slots la C K R o1 (i_cons ⟨by decide, by decide⟩ o2) L S B c1 c2
  exact va_gets C.1 C.2.1 K.2.2.1.2.2.1 S C.2.2.2.2.1 (C.2.2.2.2.2.1 _ hl) (fun _ z => z) hd W1
theorem aw_gsf {idx : Nat} (hl : Cond.fieldLink (mY M).cls idx "jdk/internal/util/Preconditions" "SIOOBE_FORMATTER" "Ljava/util/function/BiFunction;" ∈ gw) (hd : decode (mC M) pc = .ok (.getstatic idx, 3)) (k : ∀ a : Int, (a = 0 ∨ a = -20) → AZ G M b (pc + 3) ls (vR a :: st) h Z) : AZ G M b pc ls st h Z := by
  intro p e s m args below meth c H locs cells slots la C K R o1 o2 L S B c1 c2
  rcases K.2.2.1.2.2.2 with q | q
  · have W1 := k 0 (Or.inl rfl) p e s m args below meth c H locs cells slots la C K R o1 (i_cons inI_0 o2) L S B c1 c2
    exact va_gets C.1 C.2.1 q S C.2.2.2.2.1 (C.2.2.2.2.2.1 _ hl) (fun _ z => z) hd W1
  · have W1 := k (-20) (Or.inr rfl) p e s m args below meth c H locs cells slots la C K R o1 (i_cons ⟨by decide, by decide⟩ o2) L S B c1 c2
    rw [List.map_cons, cv_ref (by decide), adr_neg (by decide)] at W1
    exact va_gets C.1 C.2.1 q S C.2.2.2.2.1 (C.2.2.2.2.2.1 _ hl) (fun _ z => z) hd W1
theorem tx_small : ∀ i : Nat, i < 6 → txL.getD i 0 ≤ 5 := by decide
theorem aw_tlen {i : Nat} (hi : i < 6) (hd : decode (mC M) pc = .ok (.arraylength, 1)) (k : AZ G M b (pc + 1) ls (vI ((txL.getD i 0 : Nat) : Int) :: st) h Z) : AZ G M b pc ls (vR (-10 - (i : Int)) :: st) h Z := by
  intro p e s m args below meth c H locs cells slots la C K R o1 o2 L S B c1 c2
  have hs := tx_small i hi
  have W1 := k p e s m args below meth c H locs cells slots la C K R o1 (i_cons ⟨by omega, by omega⟩ (i_tail o2)) L S B c1 c2
  rw [List.map_cons, cv_ref (by omega), adr_neg (by omega)]
  exact va_tlen C.1 C.2.1 (K.2.2.1.1.1 i hi).2.2.2 S rfl hd W1
theorem aw_tb {i : Nat} {j : Int} (hi : i < 6) (h0 : 0 ≤ j) (h1 : j < ((txL.getD i 0 : Nat) : Int)) (hd : decode (mC M) pc = .ok (.baload, 1)) (k : AZ G M b (pc + 1) ls (vI ((txB.getD i []).getD j.toNat 0).toInt :: st) h Z) : AZ G M b pc ls (vI j :: vR (-10 - (i : Int)) :: st) h Z := by
  intro p e s m args below meth c H locs cells slots la C K R o1 o2 L S B c1 c2
  have hj : inI j := i_head o2
  have W1 := k p e s m args below meth c H locs cells slots la C K R o1 (i_cons (i_inI _) (i_tail2 o2)) L S B c1 c2
  rw [List.map_cons] at W1
  rw [List.map_cons, List.map_cons, cv_ref (by omega), adr_neg (by omega)]
  refine va_tb C.1 C.2.1 (K.2.2.1.1.1 i hi).2.2.2 S (i_in hj h0 h1) (v := .int ((txB.getD i []).getD j.toNat 0)) ?_ hd ?_
  · rw [i_clamp hj]
  · have e0 : cv G (vI ((txB.getD i []).getD j.toNat 0).toInt) = .int ((txB.getD i []).getD j.toNat 0) := by
      show Value.int _ = _
      rw [i_of32]
    rw [e0] at W1
    exact W1
theorem aw_ishr0 {x : Int} (hd : decode (mC M) pc = .ok (.ishr, 1)) (k : AZ G M b (pc + 1) ls (vI x :: st) h Z) : AZ G M b pc ls (vI 0 :: vI x :: st) h Z := by
  intro p e s m args below meth c H locs cells slots la C K R o1 o2 L S B c1 c2
  have W1 := k p e s m args below meth c H locs cells slots la C K R o1 (i_tail o2) L S B c1 c2
  refine lv_ishr C.1 C.2.1 hd ?_
  have e0 : Int32.ofInt x >>> ((0 : Int32) &&& 31) = Int32.ofInt x := sb_shr0 _
  show W _ _ _ _ _ _ _ _ _ _ _ _ _ _ _ (F0 m (pc + 1) la (.int (Int32.ofInt x >>> (Int32.ofInt 0 &&& 31)) :: _))
  rw [show Int32.ofInt 0 = (0 : Int32) from rfl, e0]
  exact W1
theorem aw_sld {i : Int} (h0 : 0 ≤ i) (h1 : i < (G.2.2.2.2.2.1 : Int)) (hd : decode (mC M) pc = .ok (.iaload, 1)) (k : AZ G M b (pc + 1) ls (vI (G.2.2.2.2.2.2 i.toNat).toInt :: st) h Z) : AZ G M b pc ls (vI i :: vR (-1) :: st) h Z := by
  intro p e s m args below meth c H locs cells slots la C K R o1 o2 L S B c1 c2
  have hj : inI i := i_head o2
  have W1 := k p e s m args below meth c H locs cells slots la C K R o1 (i_cons (i_inI _) (i_tail2 o2)) L S B c1 c2
  rw [List.map_cons] at W1
  rw [List.map_cons, List.map_cons, cv_ref (by decide), adr_neg (by decide)]
  obtain ⟨x1, x2, x3, -⟩ := K.2.2.2
  refine va_sld C.1 C.2.1 x1 x2 x3 S (i_in hj h0 h1) hd ?_
  rw [i_clamp hj]
  have e0 : cv G (vI (G.2.2.2.2.2.2 i.toNat).toInt) = .int (G.2.2.2.2.2.2 i.toNat) := by
    show Value.int _ = _
    rw [i_of32]
  rw [e0] at W1
  exact W1
theorem aw_slen (hL : G.2.2.2.2.2.1 < 2147483648) (hd : decode (mC M) pc = .ok (.arraylength, 1)) (k : AZ G M b (pc + 1) ls (vI (G.2.2.2.2.2.1 : Int) :: st) h Z) : AZ G M b pc ls (vR (-1) :: st) h Z := by
  intro p e s m args below meth c H locs cells slots la C K R o1 o2 L S B c1 c2
  have W1 := k p e s m args below meth c H locs cells slots la C K R o1 (i_cons ⟨by omega, by omega⟩ (i_tail o2)) L S B c1 c2
  rw [List.map_cons, cv_ref (by decide), adr_neg (by decide)]
  obtain ⟨x1, x2, x3, -⟩ := K.2.2.2
  exact va_slen C.1 C.2.1 x1 x2 x3 S hd W1
theorem aw_callVT {idx : Nat} {M' : MT} {a : Int} (as st' : List VV) (hl : lkV (mY M).cls idx M' as.length) (hcl : (mY M').cls = "java/lang/String") (hd : decode (mC M) pc = .ok (.invokevirtual idx, 3)) (hst : st = as.reverse ++ vR a :: st') (hc : catS st' ≤ 8) (hf : fitR M M' b) (hs : ∃ i : Nat, i < 6 ∧ a = -2 - (i : Int)) (k : Runs G M' (vR a :: as) h (fun r h' => AZ G M (b.1 - (mQ M').cells, b.2 - (mQ M').slots) (pc + 3) ls (r.toList ++ st') h' Z)) : AZ G M b pc ls st h Z := by
  intro p e s m args below meth c H locs cells slots la C K R o1 o2 L S B c1 c2
  obtain ⟨l1, l2, l3, l4, l5⟩ := hl
  obtain ⟨f1, f2, f3, f4⟩ := hf
  obtain ⟨i, hi, rfl⟩ := hs
  have hts := C.2.2.2.2.2.1
  subst hst
  have oa : ∀ v ∈ vR (-2 - (i : Int)) :: as, okV v := fun v hv => by
    rcases List.mem_cons.mp hv with rfl | hv
    · exact o2 _ (List.mem_append_right _ List.mem_cons_self)
    · exact o2 v (List.mem_append_left _ (List.mem_reverse.mpr hv))
  have e0 : cv G (vR (-2 - (i : Int))) = .ref (gN G (-2 - (i : Int))) := by rw [cv_ref (by omega), adr_neg (by omega)]
  have hpp := PP.pre C K R S B oa
  rw [List.map_cons, e0] at hpp
  have hrv := vk_recv K.2.2.1.1 hi S
  rw [← hcl] at hrv
  refine aw_back (M' := M') C K o1 (fun v hv => o2 v (List.mem_append_right _ (List.mem_cons_of_mem _ hv))) L S B c1 c2 ⟨f3, f4⟩ (va_runV (As := as.map (cv G)) (rest := st'.map (cv G)) (b := gN G (-2 - (i : Int))) (C := (mY M').cls) ⟨C.1, C.2.1, C.2.2.2.1, C.2.2.2.2.1, hts⟩ k ⟨callB_of as.length hts l1.in rfl rfl rfl (hts _ l1.2.1) (hts _ l2) ⟨l1.2.2.1, l1.2.2.2, l5⟩ ⟨f1, f2⟩, hts _ l3, hts _ l4⟩ ⟨PP.blind, hrv, hpp⟩ rfl (by simp) L.1 ?_ (lv_room (by rw [catS_eq]; exact hc)) hd ⟨by omega, by omega⟩)
  show ((as.reverse ++ vR (-2 - (i : Int)) :: st').map (cv G)) = _
  rw [List.map_append, List.map_reverse, List.map_cons, e0]
end AT
section JT
variable {G : GG} {Q : Option VV → Hp → Prop} {h : Hp} {i : Nat}
theorem wJ_val : Cond.fieldLink RJ0 9 "java/lang/String" "value" "[B" ∈ gw := gw_at 1289 (by decide +kernel) rfl
theorem wJ_cod : Cond.fieldLink RJ0 15 "java/lang/String" "coder" "B" ∈ gw := gw_at 1290 (by decide +kernel) rfl
theorem wJ_cmp : Cond.fieldLink RJ0 38 "java/lang/String" "COMPACT_STRINGS" "Z" ∈ gw := gw_at 477 (by decide +kernel) rfl
theorem wJ_frm : Cond.fieldLink RJ0 1053 "jdk/internal/util/Preconditions" "SIOOBE_FORMATTER" "Ljava/util/function/BiFunction;" ∈ gw := gw_at 493 (by decide +kernel) rfl
theorem st_coder (hi : i < 6) (k : Q (some (vI 0)) h) : Runs G mm_J0_coder_7d493 [vR (-2 - (i : Int))] h Q := by
  refine Runs.of (by decide +kernel) (Nat.le_of_ble_eq_true rfl) ?_
  refine aw_gst wJ_cmp dJ0_coder_7d493_0 ?_
  refine aw_if_eq (tgt := 13) dJ0_coder_7d493_3 (by decide) (fun hc => absurd hc (by decide)) (fun _ => ?_)
  refine aw_aload_n 0 dJ0_coder_7d493_6 rfl rfl ?_
  refine aw_gcod hi wJ_cod dJ0_coder_7d493_7 ?_
  refine aw_goto (tgt := 14) dJ0_coder_7d493_10 (by decide) ?_
  exact aw_xret dJ0_coder_7d493_14 rfl (by decide) k
theorem st_isLatin1 (hi : i < 6) (k : Q (some (vI 1)) h) : Runs G mm_J0_isLatin1_aae02 [vR (-2 - (i : Int))] h Q := by
  refine Runs.of (by decide +kernel) (Nat.le_of_ble_eq_true rfl) ?_
  refine aw_gst wJ_cmp dJ0_isLatin1_aae02_0 ?_
  refine aw_if_eq (tgt := 17) dJ0_isLatin1_aae02_3 (by decide) (fun hc => absurd hc (by decide)) (fun _ => ?_)
  refine aw_aload_n 0 dJ0_isLatin1_aae02_6 rfl rfl ?_
  refine aw_gcod hi wJ_cod dJ0_isLatin1_aae02_7 ?_
  refine aw_if_ne (tgt := 17) dJ0_isLatin1_aae02_10 (by decide) (fun hc => absurd hc (by decide)) (fun _ => ?_)
  refine aw_iconst dJ0_isLatin1_aae02_13 ⟨by decide, by decide⟩ ?_
  refine aw_goto (tgt := 18) dJ0_isLatin1_aae02_14 (by decide) ?_
  exact aw_zret dJ0_isLatin1_aae02_18 rfl (by decide) k
theorem st_length (hi : i < 6) (k : Q (some (vI ((txL.getD i 0 : Nat) : Int))) h) : Runs G mm_J0_length_8abf5 [vR (-2 - (i : Int))] h Q := by
  refine Runs.of (by decide +kernel) (Nat.le_of_ble_eq_true rfl) ?_
  refine aw_aload_n 0 dJ0_length_8abf5_0 rfl rfl ?_
  refine aw_gval hi wJ_val dJ0_length_8abf5_1 ?_
  refine aw_tlen hi dJ0_length_8abf5_4 ?_
  refine aw_aload_n 0 dJ0_length_8abf5_5 rfl rfl ?_
  refine aw_callVT (M' := mm_J0_coder_7d493) [] [vI ((txL.getD i 0 : Nat) : Int)] lk_J0_335 rfl dJ0_length_8abf5_6 rfl (Nat.le_of_ble_eq_true rfl) ⟨by decide, by decide, Nat.zero_le _, Nat.zero_le _⟩ ⟨i, hi, rfl⟩ ?_
  refine st_coder hi ?_
  refine aw_ishr0 dJ0_length_8abf5_9 ?_
  exact aw_iret dJ0_length_8abf5_10 rfl k
theorem st_check3 {x n a : Int} (h0 : 0 ≤ x) (h1 : x < n) (k : Q (some (vI x)) h) : Runs G mm_J3_checkIndex_8e157 [vI x, vI n, vR a] h Q := by
  refine Runs.of (by decide +kernel) (Nat.le_of_ble_eq_true rfl) ?_
  refine aw_iload_n 0 dJ3_checkIndex_8e157_0 rfl rfl ?_
  refine aw_if_lt (tgt := 9) dJ3_checkIndex_8e157_1 (by decide) (fun hc => absurd hc (by omega)) (fun _ => ?_)
  refine aw_iload_n 0 dJ3_checkIndex_8e157_4 rfl rfl ?_
  refine aw_iload_n 1 dJ3_checkIndex_8e157_5 rfl rfl ?_
  refine aw_icmp_lt (tgt := 16) dJ3_checkIndex_8e157_6 (by decide) (fun _ => ?_) (fun hc => absurd h1 hc)
  refine aw_iload_n 0 dJ3_checkIndex_8e157_16 rfl rfl ?_
  exact aw_iret dJ3_checkIndex_8e157_17 rfl k
theorem st_check {x n : Int} (h0 : 0 ≤ x) (h1 : x < n) (k : Q none h) : Runs G mm_J0_checkIndex_df160 [vI x, vI n] h Q := by
  refine Runs.of (by decide +kernel) (Nat.le_of_ble_eq_true rfl) ?_
  refine aw_iload_n 0 dJ0_checkIndex_df160_0 rfl rfl ?_
  refine aw_iload_n 1 dJ0_checkIndex_df160_1 rfl rfl ?_
  refine aw_gsf wJ_frm dJ0_checkIndex_df160_2 (fun a ha => ?_)
  refine aw_callS (M' := mm_J3_checkIndex_8e157) [vI x, vI n, vR a] [] lk_J0_1059 dJ0_checkIndex_df160_5 rfl (Nat.le_of_ble_eq_true rfl) ⟨by decide, by decide, Nat.zero_le _, Nat.zero_le _⟩ ?_
  refine st_check3 h0 h1 ?_
  refine aw_pop (v := vI x) dJ0_checkIndex_df160_8 rfl ?_
  exact aw_vret dJ0_checkIndex_df160_9 rfl k
theorem tx_byte : ∀ i : Nat, i < 6 → ∀ j : Nat, j < txL.getD i 0 → iAnd ((txB.getD i []).getD j 0).toInt 255 = ((txB.getD i []).getD j 0).toInt ∧ 0 ≤ ((txB.getD i []).getD j 0).toInt ∧ ((txB.getD i []).getD j 0).toInt < 128 := by decide +kernel
theorem st_charL {j : Int} (hi : i < 6) (h0 : 0 ≤ j) (h1 : j < ((txL.getD i 0 : Nat) : Int)) (k : Q (some (vI ((txB.getD i []).getD j.toNat 0).toInt)) h) : Runs G mm_J1_charAt_3b067 [vR (-10 - (i : Int)), vI j] h Q := by
  obtain ⟨b1, b2, b3⟩ := tx_byte i hi j.toNat (by omega)
  refine Runs.of (by decide +kernel) (Nat.le_of_ble_eq_true rfl) ?_
  refine aw_iload_n 1 dJ1_charAt_3b067_0 rfl rfl ?_
  refine aw_aload_n 0 dJ1_charAt_3b067_1 rfl rfl ?_
  refine aw_tlen hi dJ1_charAt_3b067_2 ?_
  refine aw_callS (M' := mm_J0_checkIndex_df160) [vI j, vI ((txL.getD i 0 : Nat) : Int)] [] lk_J1_9 dJ1_charAt_3b067_3 rfl (Nat.le_of_ble_eq_true rfl) ⟨by decide, by decide, Nat.zero_le _, Nat.zero_le _⟩ ?_
  refine st_check h0 h1 ?_
  refine aw_aload_n 0 dJ1_charAt_3b067_6 rfl rfl ?_
  refine aw_iload_n 1 dJ1_charAt_3b067_7 rfl rfl ?_
  refine aw_tb hi h0 h1 dJ1_charAt_3b067_8 ?_
  refine aw_sipush dJ1_charAt_3b067_9 ⟨by decide, by decide⟩ (by decide) ?_
  refine aw_iand dJ1_charAt_3b067_12 ?_
  rw [b1]
  refine aw_i2c dJ1_charAt_3b067_13 b2 (by omega) ?_
  refine aw_xret dJ1_charAt_3b067_14 rfl ?_ k
  rw [i_nI b2]
  exact (pk_charN (by omega)).1
theorem st_char {j : Int} (hi : i < 6) (h0 : 0 ≤ j) (h1 : j < ((txL.getD i 0 : Nat) : Int)) (k : Q (some (vI ((txB.getD i []).getD j.toNat 0).toInt)) h) : Runs G mm_J0_charAt_5068e [vR (-2 - (i : Int)), vI j] h Q := by
  obtain ⟨b1, b2, b3⟩ := tx_byte i hi j.toNat (by omega)
  refine Runs.of (by decide +kernel) (Nat.le_of_ble_eq_true rfl) ?_
  refine aw_aload_n 0 dJ0_charAt_5068e_0 rfl rfl ?_
  refine aw_callVT (M' := mm_J0_isLatin1_aae02) [] [] lk_J0_492 rfl dJ0_charAt_5068e_1 rfl (Nat.le_of_ble_eq_true rfl) ⟨by decide, by decide, Nat.zero_le _, Nat.zero_le _⟩ ⟨i, hi, rfl⟩ ?_
  refine st_isLatin1 hi ?_
  refine aw_if_eq (x := 1) (tgt := 16) dJ0_charAt_5068e_4 (by decide) (fun hc => absurd hc (by decide)) (fun _ => ?_)
  refine aw_aload_n 0 dJ0_charAt_5068e_7 rfl rfl ?_
  refine aw_gval hi wJ_val dJ0_charAt_5068e_8 ?_
  refine aw_iload_n 1 dJ0_charAt_5068e_11 rfl rfl ?_
  refine aw_callS (M' := mm_J1_charAt_3b067) [vR (-10 - (i : Int)), vI j] [] lk_J0_495 dJ0_charAt_5068e_12 rfl (Nat.le_of_ble_eq_true rfl) ⟨by decide, by decide, Nat.zero_le _, Nat.zero_le _⟩ ?_
  refine st_charL hi h0 h1 ?_
  refine aw_xret (x := ((txB.getD i []).getD j.toNat 0).toInt) dJ0_charAt_5068e_15 rfl ?_ k
  rw [i_nI b2]
  exact (pk_charN (by omega)).1
end JT
