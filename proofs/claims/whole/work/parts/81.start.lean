/-! the start: what holds of the state at the law's entry, the walk of the two constructors -/
section ST
theorem st_cls {s : State} {b : Nat} (hts : ∀ w ∈ gw, w.before #[Value.ref b] s = true) : ∃ D : (Nat → ClassId) × (Nat → Nat → Nat), ∀ (k : Nat) (q : vw_C), vwCl[k]? = some q → u_Kn s q.1 q.2.1 q.2.2 (D.1 k) (D.2 k) := by
  have h0 : ∀ k : Nat, ∃ d : ClassId × (Nat → Nat), ∀ q : vw_C, vwCl[k]? = some q → u_Kn s q.1 q.2.1 q.2.2 d.1 d.2 := by
    intro k
    cases hq : vwCl[k]? with
    | none => exact ⟨(0, fun _ => 0), fun q h => by cases h⟩
    | some q =>
      have ck := (cl_all hq).1
      obtain ⟨cC, iS, hk⟩ := u_known hts ck.1 (hts _ ck.2.2.2.2.1)
      exact ⟨(cC, iS), fun q' h => by cases h; exact hk⟩
  obtain ⟨d, hd⟩ := Classical.axiomOfChoice h0
  exact ⟨(fun k => (d k).1, fun k => (d k).2), hd⟩
theorem st_prim {s : State} {b : Nat} {ty : FieldType} (h : (Cond.arrayClass ty).before #[Value.ref b] s = true) : ∃ cA, ArrOfT s cA ty ∧ s.vm.findClass ("[" ++ ty.toString) = some cA := by
  obtain ⟨cA, kA, comp, h1, h2, h3⟩ := Cond.arrayClass_spec h
  exact ⟨cA, fun n z => ⟨fun k h => (by cases h), kA, h2, comp, h3⟩, h1⟩
theorem st_obj {s : State} {b : Nat} {C : String} (h : (Cond.arrayOver (.object C)).before #[Value.ref b] s = true) : ∃ cA, ArrOfT s cA (.object C) ∧ va_RA s cA (.object C) := by
  obtain ⟨comp, cA, kA, f4, hidx, f2, f3, f1⟩ := Cond.arrayOver_spec h
  exact ⟨cA, fun n z => ⟨(fun k h => by cases h), kA, f2, comp, f3⟩, kA, comp, f2, f3, f4, f1⟩
def tmR (i : Nat) : Term := .string RX6 (txR.getD i (0, "")).1
theorem st_text {s : State} {b : Nat} {A : Nat → Prop} (hgv : (Jvm.Cond.and given_1 narrow_1).before #[Value.ref b] s = true) (hA : ∀ a : Nat, a < s.heap.size → ¬ A a) : ∃ adK adV : Nat → Nat, vk_S 6 txL txB adK adV A s s.heap ∧ ∀ i : Nat, i < 6 → (tmR i).eval #[Value.ref b] s none [] s = some (.ref (adK i)) := by
  have hs := flat_of_before _ hgv
  have m1 : ∀ i : Nat, i < 6 → Cond.exactly (tmR i) "java/lang/String" ∈ flatC (Jvm.Cond.and given_1 narrow_1) := by decide +kernel
  have m2 : ∀ i : Nat, i < 6 → Cond.eq (.field (tmR i) "java/lang/String" "coder" "B") (.int 0) ∈ flatC (Jvm.Cond.and given_1 narrow_1) := by decide +kernel
  have m3 : ∀ i : Nat, i < 6 → Cond.arrayOf (.field (tmR i) "java/lang/String" "value" "[B") .byte ∈ flatC (Jvm.Cond.and given_1 narrow_1) := by decide +kernel
  have m4 : ∀ i : Nat, i < 6 → Cond.eq (.length (.field (tmR i) "java/lang/String" "value" "[B")) (.int (Int32.ofNat (txL.getD i 0))) ∈ flatC (Jvm.Cond.and given_1 narrow_1) := by decide +kernel
  have m5 : ∀ i : Nat, i < 6 → ∀ j : Nat, j < txL.getD i 0 → Cond.eq (.elem (.field (tmR i) "java/lang/String" "value" "[B") (.int (Int32.ofNat j))) (.int ((txB.getD i []).getD j 0)) ∈ flatC (Jvm.Cond.and given_1 narrow_1) := by decide +kernel
  have m6 : ∀ i : Nat, i < 6 → ∀ j : Nat, j < 6 → i ≠ j → Cond.not (Cond.eq (tmR i) (tmR j)) ∈ flatC (Jvm.Cond.and given_1 narrow_1) ∨ Cond.not (Cond.eq (tmR j) (tmR i)) ∈ flatC (Jvm.Cond.and given_1 narrow_1) := by decide +kernel
  have m0 : ∀ i : Nat, i < 6 → txL.getD i 0 < 2 ^ 31 := by decide +kernel
  exact vk_Sof m0 (fun i hi => hs _ (m1 i hi)) (fun i hi => hs _ (m2 i hi)) (fun i hi => hs _ (m3 i hi)) (fun i hi => hs _ (m4 i hi)) (fun i hi j hj => hs _ (m5 i hi j hj)) (fun i j hi hj hij => (m6 i hi j hj hij).elim (fun h => Or.inl (hs _ h)) (fun h => Or.inr (hs _ h))) hA
theorem vk_S_c {N : Nat} {len : List Nat} {byt : List (List Int32)} {adK adV aK aV : Nat → Nat} {A : Nat → Prop} {U : State} {H : Heap} (h : vk_S N len byt adK adV A U H) (e1 : ∀ i, i < N → aK i = adK i) (e2 : ∀ i, i < N → aV i = adV i) : vk_S N len byt aK aV A U H :=
  ⟨fun i hi => by rw [e1 i hi, e2 i hi]; exact h.1 i hi, fun i j hi hj e => h.2 i j hi hj (by rw [← e1 i hi, ← e1 j hj]; exact e)⟩
theorem st_G {s : State} {b L : Nat} {xs : Nat → Int32} (l : Launch) (hts : ∀ w ∈ lw_tbl, w.before #[Value.ref b] s = true) (hX : va_X b L xs s s.heap) (hbl : b < s.heap.size) (hgv : (Jvm.Cond.and given_1 narrow_1).before #[Value.ref b] s = true) : ∃ G : GG, G.1 = l ∧ gB G + 1 = s.heap.size ∧ gN G (-1) = b ∧ G.2.2.2.2.2.1 = L ∧ KX G s := by
  have hgw : ∀ w ∈ gw, w.before #[Value.ref b] s = true := fun w hw => hts w (List.mem_filter.mp hw).1
  have hA : ∀ a : Nat, a < s.heap.size → ¬ (s.heap.size - 1 < a) := fun a h => by omega
  have hs := flat_of_before _ hgv
  obtain ⟨D, hD⟩ := st_cls hgw
  obtain ⟨c20, a20, b20⟩ := st_prim (hts (.arrayClass .int) (by decide +kernel))
  obtain ⟨c21, a21, b21⟩ := st_prim (hts (.arrayClass .boolean) (by decide +kernel))
  obtain ⟨c22, a22, b22⟩ := st_prim (hts (.arrayClass .char) (by decide +kernel))
  have m31 : Cond.arrayOver (.object RX1) ∈ lw_tbl := by decide +kernel
  have m32 : Cond.arrayOver (.object RX2) ∈ lw_tbl := by decide +kernel
  have m33 : Cond.arrayOver (.object RX3) ∈ lw_tbl := by decide +kernel
  have m35 : Cond.arrayOver (.object RX5) ∈ lw_tbl := by decide +kernel
  have m38 : Cond.arrayOver (.object RX8) ∈ lw_tbl := by decide +kernel
  obtain ⟨c31, a31, b31⟩ := st_obj (hts _ m31)
  obtain ⟨c32, a32, b32⟩ := st_obj (hts _ m32)
  obtain ⟨c33, a33, b33⟩ := st_obj (hts _ m33)
  obtain ⟨c35, a35, b35⟩ := st_obj (hts _ m35)
  obtain ⟨c38, a38, b38⟩ := st_obj (hts _ m38)
  obtain ⟨adK, adV, hvs, hve⟩ := st_text (A := fun q => s.heap.size - 1 < q) hgv hA
  have hZ1 : va_Z "java/lang/String" "COMPACT_STRINGS" "Z" (.int 1) (fun q => s.heap.size - 1 < q) s s.heap := va_Zof (hts (.laysStatic "java/lang/String" "COMPACT_STRINGS" "Z") (by decide +kernel)) (hts (.initialized "java/lang/String") (by decide +kernel)) (va_eqt (hs (Cond.eq (.static "java/lang/String" "COMPACT_STRINGS" "Z") (.int 1)) (by decide +kernel))) hA
  have hZ2 : va_Zq "jdk/internal/util/Preconditions" "SIOOBE_FORMATTER" "Ljava/util/function/BiFunction;" (fun q => s.heap.size - 1 < q) s s.heap := va_Zqof (hts (.laysStatic "jdk/internal/util/Preconditions" "SIOOBE_FORMATTER" "Ljava/util/function/BiFunction;") (by decide +kernel)) (hts (.initialized "jdk/internal/util/Preconditions") (by decide +kernel)) (hs (Cond.isRef (.static "jdk/internal/util/Preconditions" "SIOOBE_FORMATTER" "Ljava/util/function/BiFunction;")) (by decide +kernel)) hA
  obtain ⟨sq, hsq⟩ : ∃ sq : Nat, va_Z "jdk/internal/util/Preconditions" "SIOOBE_FORMATTER" "Ljava/util/function/BiFunction;" .null (fun q => s.heap.size - 1 < q) s s.heap ∨ va_Z "jdk/internal/util/Preconditions" "SIOOBE_FORMATTER" "Ljava/util/function/BiFunction;" (.ref sq) (fun q => s.heap.size - 1 < q) s s.heap := by
    rcases hZ2 with h | ⟨t, h⟩
    · exact ⟨0, Or.inl h⟩
    · exact ⟨t, Or.inr h⟩
  have hnt : ∀ w ∈ nestW, w.onTables = true := by decide +kernel
  have mR : ∀ i : Nat, i < 6 → Cond.stringRef RX6 (txR.getD i (0, "")).1 (txR.getD i (0, "")).2 ∈ lw_tbl := by decide +kernel
  refine ⟨(l, D, (fun a => if a = 20 then c20 else if a = 21 then c21 else if a = 22 then c22 else if a = 31 then c31 else if a = 32 then c32 else if a = 33 then c33 else if a = 35 then c35 else c38), s.heap.size - 1, (fun a => if a = -1 then b else if a = -20 then sq else if a ≤ -10 then adV (-10 - a).toNat else adK (-2 - a).toNat), (L, xs)), rfl, by show s.heap.size - 1 + 1 = s.heap.size; omega, rfl, rfl, ?_⟩
  have eK : ∀ i : Nat, i < 6 → (fun a : Int => if a = -1 then b else if a = -20 then sq else if a ≤ -10 then adV (-10 - a).toNat else adK (-2 - a).toNat) (-2 - (i : Int)) = adK i := fun i hi => by
    show (if (-2 - (i : Int)) = -1 then b else if (-2 - (i : Int)) = -20 then sq else if (-2 - (i : Int)) ≤ -10 then adV (-10 - (-2 - (i : Int))).toNat else adK (-2 - (-2 - (i : Int))).toNat) = adK i
    rw [if_neg (by omega), if_neg (by omega), if_neg (by omega), show (-2 - (-2 - (i : Int))).toNat = i by omega]
  have eV : ∀ i : Nat, i < 6 → (fun a : Int => if a = -1 then b else if a = -20 then sq else if a ≤ -10 then adV (-10 - a).toNat else adK (-2 - a).toNat) (-10 - (i : Int)) = adV i := fun i hi => by
    show (if (-10 - (i : Int)) = -1 then b else if (-10 - (i : Int)) = -20 then sq else if (-10 - (i : Int)) ≤ -10 then adV (-10 - (-10 - (i : Int))).toNat else adK (-2 - (-10 - (i : Int))).toNat) = adV i
    rw [if_neg (by omega), if_neg (by omega), if_pos (by omega), show (-10 - (-10 - (i : Int))).toNat = i by omega]
  refine ⟨⟨hD, fun k q hq => ?_⟩, fun w hw => va_Nw.of (hnt w hw) (hts w (List.mem_filter.mp hw).1), ⟨vk_S_c hvs eK eV, fun i q hq => ?_, hZ1, hsq⟩, hX, hbl, by show ¬ (s.heap.size - 1 < b); omega, fun C hC => ?_⟩
  · match k, hq with
    | 0, hq => cases hq; exact ⟨a20, b20⟩
    | 1, hq => cases hq; exact ⟨a21, b21⟩
    | 2, hq => cases hq; exact ⟨a22, b22⟩
    | 3, hq => cases hq; exact ⟨a31, b31⟩
    | 4, hq => cases hq; exact ⟨a32, b32⟩
    | 5, hq => cases hq; exact ⟨a33, b33⟩
    | 6, hq => cases hq; exact ⟨a35, b35⟩
    | 7, hq => cases hq; exact ⟨a38, b38⟩
    | k + 8, hq => cases hq
  · have hi : i < 6 := (List.getElem?_eq_some_iff.mp hq).1
    have hg : txR.getD i (0, "") = q := by rw [List.getD_eq_getElem?_getD, hq]; rfl
    have e3 := hts _ (mR i hi)
    have e4 := hve i hi
    unfold tmR at e4
    rw [hg] at e3 e4
    have e5 := vk_R.of e3 e4
    rw [← eK i hi] at e5
    exact e5
  · rcases List.mem_cons.mp hC with rfl | hC
    · exact va_AO.of (hts _ m31)
    rcases List.mem_cons.mp hC with rfl | hC
    · exact va_AO.of (hts _ m32)
    rcases List.mem_cons.mp hC with rfl | hC
    · exact va_AO.of (hts _ m33)
    rcases List.mem_cons.mp hC with rfl | hC
    · exact va_AO.of (hts _ m35)
    rcases List.mem_cons.mp hC with rfl | hC
    · exact va_AO.of (hts _ m38)
    · cases hC
theorem st_law {G : GG} {Z : LZ} (hN : G.2.2.2.2.2.1 ≤ 3072) (hend : ∀ (b : Nat × Nat) (i : Int) (h : Hp), AZ G mm_L_law b 1004 [(0, vR (-1)), (1, vR 1), (2, vR 89), (3, vI i)] [vI 1] h Z) : AZ G mm_L_law (600000, 7302250) 0 [(0, vR (-1))] [] (fun _ _ => 0) Z := by
  have t0 : (fun _ _ => 0 : Hp) 0 0 = 0 := rfl
  generalize (fun _ _ => 0 : Hp) = h0 at t0 ⊢
  refine sg_L_law_0 ⟨by rw [t0]; unfold inI; omega, by decide, by decide, fun a5 ha5 h1 hh1 => ⟨by decide, by decide, ?_⟩⟩
  rw [t0] at ha5
  subst ha5 hh1
  refine K_i9 (nw_t t0 (by omega)) (nw_rw t0) (fun g g0 g1 g2 g3 ci hi1 hi2 ei => ?_)
  refine sg_L_law_7 ⟨by rw [g0]; unfold inI; omega, by decide, by decide, fun a5 ha5 h1 hh1 => ⟨by decide, by decide, ?_⟩⟩
  rw [g0] at ha5
  subst ha5 hh1
  refine K_i10 (nw_t g0 (by omega)) (nw_rw g0) (fun H R => ?_)
  refine sg_L_law_15 ?_
  have er : ∀ a, 1 ≤ a → a ≤ 88 → H a = g a := fun a z1 z2 => by rw [R.2.1 a z1 z2, nw_o g0 z1 z2]
  have hr : nw g 11 0 89 = ro 11 0 Zf := nw_rw g0
  have hC : CR H 0 H H := cr_0 R hr (by rw [er 1 (by omega) (by omega)]; exact g1) (by rw [er 2 (by omega) (by omega)]; exact g2) (by rw [er 3 (by omega) (by omega)]; exact g3) (ci.c fun a _ _ => er a (by omega) (by omega)) (fun j j1 j2 => by
    rcases (show j = 0 ∨ j = 1 by omega) with rfl | rfl
    · exact hi1.c fun a _ _ => er a (by omega) (by omega)
    · exact hi2.c fun a _ _ => er a (by omega) (by omega)) (fun e e1 e2 => (ei e e1 e2).c fun a _ _ => er a (by omega) (by omega))
  exact L_law hN hend 512 0 0 _ H H (by decide) (by decide) hC (fun a _ _ => rfl) (iv_0 R hr) (by decide) (by decide) (by decide)
end ST
