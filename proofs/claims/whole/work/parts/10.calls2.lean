/-! rows of the abstract machine, sixth part: calls -/
theorem nest_is {w : Cond} (h : w ∈ nestW) : ∃ a i x k, w = .methodLinkNest a i x k := by
  have h2 := (List.mem_filter.mp h).2
  cases w <;> first | exact ⟨_, _, _, _, rfl⟩ | cases h2
/-- what stays of a state stays when the tables grow warm and old cells are as they were -/
theorem KX.moved {G : GG} {s U : State} (K : KX G s) (hW : s.WarmedH U.vm) (hq : ∀ a : Nat, a < s.heap.size → ¬ gA G a → U.heap[a]? = s.heap[a]?) (hz : s.heap.size ≤ U.heap.size) : KX G U := by
  obtain ⟨k1, k2, ⟨k3, k4, k5, k6⟩, k7, k8, k9, k10⟩ := K
  refine ⟨va_K.moved hW.alike k1, fun w hw => ?_, ⟨vk_S.moved hW.alike (k3.kept hq), fun i q hi => (k4 i q hi).warm hW, va_Z.moved hW.alike (k5.kept hq), k6.imp (fun z => va_Z.moved hW.alike (z.kept hq)) (fun z => va_Z.moved hW.alike (z.kept hq))⟩, va_X.moved hW.alike (k7.kept (hq _ k8 k9)), by omega, k9, fun C hC => (k10 C hC).moved hW.alike⟩
  obtain ⟨a, i, x, k, rfl⟩ := nest_is hw
  exact va_Nw.warmM hW (k2 _ hw)
theorem KX.same {G : GG} {u U : State} (K : KX G u) (hv : u.vm = U.vm) (hh : U.heap = u.heap) : KX G U := by
  obtain ⟨k1, k2, ⟨k3, k4, k5, k6⟩, k7, k8, k9, k10⟩ := K
  have hA : u.vm.Alike U.vm := by rw [hv]; exact Vm.Alike.refl _
  refine ⟨va_K.moved hA k1, fun w hw => ?_, ?_, ?_⟩
  · obtain ⟨a, i, x, k, rfl⟩ := nest_is hw
    exact va_Nw.same rfl hv (k2 _ hw)
  · rw [hh]
    exact ⟨vk_S.moved hA k3, fun i q hi => (k4 i q hi).same hv.symm, va_Z.moved hA k5, k6.imp (fun z => va_Z.moved hA z) (fun z => va_Z.moved hA z)⟩
  · rw [hh]
    exact ⟨va_X.moved hA k7, k8, k9, fun C hC => (k10 C hC).moved hA⟩
theorem PP.blind {G : GG} {as : List VV} {h : Hp} : FrameBlind (PP G as h) := by
  intro a U g mk q
  obtain ⟨q1, q2, q3, q4, q5⟩ := q
  exact ⟨q1, q2, q3, q4.same rfl rfl, q5⟩
theorem Runs.mono {G : GG} {M : MT} {as : List VV} {h : Hp} {Q Q' : Option VV → Hp → Prop} (k : Runs G M as h Q) (hq : ∀ r h', Q r h' → Q' r h') : Runs G M as h Q' := by
  intro p e a1 a2 a3 s m args below a4 a5 a6 a7
  obtain ⟨n, o, b1, b2, b3, ⟨⟨⟨r, h', c1, c2⟩, c3⟩, b5⟩⟩ := k p e a1 a2 a3 s m args below a4 a5 a6 a7
  exact ⟨n, o, b1, b2, b3, ⟨⟨r, h', hq r h' c1, c2⟩, c3⟩, b5⟩
/-- a method of the tables -/
def okM (M : MT) : Prop := Cond.code (mY M) (mC M) (mL M) (mR M) ∈ gw ∧ Cond.initialized (mY M).cls ∈ gw ∧ (mY M).cls ≠ "java/lang/invoke/MethodHandle" ∧ (mY M).cls ≠ "java/lang/invoke/VarHandle"
theorem gw_good : ∀ w ∈ gw, (w.onTables && w.keeps) = true ∨ ∃ ty, w = .arrayClass ty := fun w hw => good_of_word (List.mem_filter.mp hw).2
theorem okM.in {M : MT} (h : okM M) : GoodIn gw (wsM M) := by
  intro w hw
  rcases List.mem_cons.mp hw with rfl | hw
  · exact ⟨h.1, gw_good _ h.1⟩
  · exact ⟨hw, gw_good w hw⟩
def prm (M : MT) (n : Nat) : Prop := (parseMethodDescriptor (mY M).desc).map (fun d => d.parameters.length) = some n
/-- the callee fits into the caller's room -/
def fitR (M M' : MT) (b : Nat × Nat) : Prop := (mQ M').frames + 1 ≤ (mQ M).frames ∧ 8 + (mL M' + 11) + (mQ M').locals ≤ (mQ M).locals ∧ (mQ M').cells ≤ b.1 ∧ (mQ M').slots ≤ b.2
def lkS (own : String) (idx : Nat) (M : MT) (n : Nat) : Prop := okM M ∧ Cond.methodLink own idx (mY M) ∈ gw ∧ Cond.static (mY M) ∈ gw ∧ prm M n
def lkV (own : String) (idx : Nat) (M : MT) (n : Nat) : Prop := okM M ∧ Cond.methodLink own idx (mY M) ∈ gw ∧ Cond.instanceMethod (mY M) ∈ gw ∧ Cond.selects (mY M).cls (mY M) (mY M) ∈ gw ∧ prm M n
def lkI (own : String) (idx : Nat) (M : MT) (n : Nat) : Prop := okM M ∧ Cond.methodLink own idx (mY M) ∈ gw ∧ Cond.instanceMethod (mY M) ∈ gw ∧ (mY M).name = "<init>" ∧ mR M = none ∧ prm M n
def lkSN (own : String) (idx : Nat) (M : MT) (n : Nat) : Prop := okM M ∧ (∃ k, Cond.methodLinkNest own idx (mY M) k ∈ nestW) ∧ Cond.static (mY M) ∈ gw ∧ prm M n
def lkIN (own : String) (idx : Nat) (M : MT) (n : Nat) : Prop := okM M ∧ (∃ k, Cond.methodLinkNest own idx (mY M) k ∈ nestW) ∧ Cond.instanceMethod (mY M) ∈ gw ∧ (mY M).name = "<init>" ∧ mR M = none ∧ prm M n
def catS (st : List VV) : Nat := (st.map (fun v => if isLg v = true then 2 else 1)).sum
theorem catS_eq {G : GG} : ∀ (st : List VV), ((st.map (cv G)).map (fun v => v.category)).sum = catS st
  | [] => rfl
  | v :: vs => by
    have hc := cv_cat (G := G) v
    have ih := catS_eq (G := G) vs
    unfold catS at ih ⊢
    rw [List.map_cons, List.map_cons, List.map_cons, List.sum_cons, List.sum_cons, ih]
    congr 1
    by_cases hv : isLg v = true
    · rw [hv] at hc
      rw [if_pos hv]
      simpa using hc
    · rw [if_neg hv]
      exact cv_cat1 (by simpa using hv)
section AR7
variable {G : GG} {M : MT} {b : Nat × Nat} {pc : Nat} {ls : List (Nat × VV)} {st : List VV} {h : Hp} {Z : LZ}
/-- behind a call -/
theorem aw_back {p : Program} {e : Env} {s : State} {m : MethodId} {args : Array Value} {below : List Frame} {meth : Method} {c : Code} {H : Heap} {locs : List Loc} {cells slots : Nat} {la : Array Slot} {M' : MT} {st0 st' : List VV} {a9 : Array Value}
    (C : CX M p s m args meth c) (K : KX G s) (o1 : ∀ q ∈ ls, okV q.2) (o2 : ∀ v ∈ st', okV v) (L : lv_has la (mL M) (lvs G ls)) (S : va_S (gA G) s.heap H locs) (B : gB G < s.heap.size) (c1 : cells + b.1 ≤ (mQ M).cells) (c2 : slots + b.2 ≤ (mQ M).slots) (hf : (mQ M').cells ≤ b.1 ∧ (mQ M').slots ≤ b.2)
    (hr : va_Run p G.1 e (mQ M) s m args below meth c H locs cells slots (mQ M').cells (mQ M').slots (F0 m pc la (st0.map (cv G))) (st'.map (cv G)) (QQ G (fun r h' => AZ G M (b.1 - (mQ M').cells, b.2 - (mQ M').slots) (pc + 3) ls (r.toList ++ st') h' Z) a9) (gA G)) :
    W p G.1 e (mQ M) s m args below meth c H locs cells slots (Z below args s) (F0 m pc la (st0.map (cv G))) := by
  intro T hT X
  obtain ⟨v, s0, t, T', L', h0, X', hL, e1, e2, ⟨⟨r, h', hQ, hok, hv, hR⟩, hz, hk⟩, stp⟩ := hr T hT X
  cases hv
  rw [h0] at hz hk
  have S' : va_S (gA G) s.heap T'.heap (locs ++ L') := ⟨Nat.le_trans S.1 (by rw [e1]; exact hz), fun q h1 h2 => by rw [e1, hk q (Nat.lt_of_lt_of_le h1 S.1) h2]; exact S.2.1 q h1 h2, fun q hq => by
    rcases List.mem_append.mp hq with h | h
    · exact S.2.2 q h
    · exact hL q h⟩
  have W1 := hQ p e s m args below meth c T'.heap (locs ++ L') (cells + (mQ M').cells) (slots + (mQ M').slots) la C K (by rw [e1]; exact hR) o1 (fun w hw => by
    rcases List.mem_append.mp hw with h | h
    · exact hok w (Option.mem_toList.mp h)
    · exact o2 w h) L S' B (by dsimp only; omega) (by dsimp only; omega)
  obtain ⟨t2, a1, b1⟩ := W1 T' rfl X'
  refine ⟨t2, stp t2 ?_, b1⟩
  have e3 : (r.toList ++ st').map (cv G) = (r.map (cv G)).toList ++ st'.map (cv G) := by
    rw [List.map_append]
    cases r <;> rfl
  rw [e3] at a1
  exact a1
theorem PP.pre {p : Program} {s : State} {m : MethodId} {args : Array Value} {meth : Method} {c : Code} {H : Heap} {locs : List Loc} {as : List VV} (C : CX M p s m args meth c) (K : KX G s) (R : Rel G h H) (S : va_S (gA G) s.heap H locs) (B : gB G < s.heap.size) (oa : ∀ v ∈ as, okV v) : ∀ U : State, U.heap = H → s.WarmedH U.vm → PP G as h (as.map (cv G)).toArray U := by
  intro U hU hW
  exact ⟨rfl, oa, by rw [hU]; exact R, K.moved hW (fun a h1 h2 => by rw [hU]; exact S.2.1 a h1 h2) (by rw [hU]; exact S.1), by rw [hU]; exact Nat.lt_of_lt_of_le B S.1⟩
theorem aw_callS {idx : Nat} {M' : MT} (as st' : List VV) (hl : lkS (mY M).cls idx M' as.length) (hd : decode (mC M) pc = .ok (.invokestatic idx, 3)) (hst : st = as.reverse ++ st') (hc : catS st' ≤ 8) (hf : fitR M M' b) (k : Runs G M' as h (fun r h' => AZ G M (b.1 - (mQ M').cells, b.2 - (mQ M').slots) (pc + 3) ls (r.toList ++ st') h' Z)) : AZ G M b pc ls st h Z := by
  intro p e s m args below meth c H locs cells slots la C K R o1 o2 L S B c1 c2
  obtain ⟨l1, l2, l3, l4⟩ := hl
  obtain ⟨f1, f2, f3, f4⟩ := hf
  have hts := C.2.2.2.2.2.1
  subst hst
  refine aw_back (M' := M') C K o1 (fun v hv => o2 v (List.mem_append_right _ hv)) L S B c1 c2 ⟨f3, f4⟩ (va_runS (As := as.map (cv G)) (rest := st'.map (cv G)) ⟨C.1, C.2.1, C.2.2.2.1, C.2.2.2.2.1, hts⟩ k ⟨callB_of as.length hts l1.in rfl rfl rfl (hts _ l1.2.1) (hts _ l2) ⟨l1.2.2.1, l1.2.2.2, l4⟩ ⟨f1, f2⟩, hts _ l3⟩ ⟨PP.blind, PP.pre C K R S B (fun v hv => o2 v (List.mem_append_left _ (List.mem_reverse.mpr hv)))⟩ rfl (by simp) L.1 ?_ (lv_room (by rw [catS_eq]; exact hc)) hd ⟨by omega, by omega⟩)
  show ((as.reverse ++ st').map (cv G)) = _
  rw [List.map_append, List.map_reverse]
theorem aw_callSN {idx : Nat} {M' : MT} (as st' : List VV) (hl : lkSN (mY M).cls idx M' as.length) (hd : decode (mC M) pc = .ok (.invokestatic idx, 3)) (hst : st = as.reverse ++ st') (hc : catS st' ≤ 8) (hf : fitR M M' b) (k : Runs G M' as h (fun r h' => AZ G M (b.1 - (mQ M').cells, b.2 - (mQ M').slots) (pc + 3) ls (r.toList ++ st') h' Z)) : AZ G M b pc ls st h Z := by
  intro p e s m args below meth c H locs cells slots la C K R o1 o2 L S B c1 c2
  obtain ⟨l1, ⟨hk, l2⟩, l3, l4⟩ := hl
  obtain ⟨f1, f2, f3, f4⟩ := hf
  have hts := C.2.2.2.2.2.1
  subst hst
  refine aw_back (M' := M') C K o1 (fun v hv => o2 v (List.mem_append_right _ hv)) L S B c1 c2 ⟨f3, f4⟩ (va_runSN (As := as.map (cv G)) (rest := st'.map (cv G)) ⟨C.1, C.2.1, C.2.2.2.1, C.2.2.2.2.1, hts⟩ k ⟨va_cnB as.length hts l1.in rfl rfl rfl (K.2.1 _ l2) (hts _ l1.2.1) ⟨l1.2.2.1, l1.2.2.2, l4⟩ ⟨f1, f2⟩, hts _ l3, trivial⟩ ⟨PP.blind, PP.pre C K R S B (fun v hv => o2 v (List.mem_append_left _ (List.mem_reverse.mpr hv)))⟩ rfl (by simp) L.1 ?_ (lv_room (by rw [catS_eq]; exact hc)) hd ⟨by omega, by omega⟩)
  show ((as.reverse ++ st').map (cv G)) = _
  rw [List.map_append, List.map_reverse]
theorem aw_callV {idx : Nat} {M' : MT} {a : Int} (ci : Nat) (as st' : List VV) (hl : lkV (mY M).cls idx M' as.length) (hcl : ∃ q, vwCl[ci]? = some q ∧ q.1 = (mY M').cls) (hd : decode (mC M) pc = .ok (.invokevirtual idx, 3)) (hst : st = as.reverse ++ vR a :: st') (hc : catS st' ≤ 8) (hf : fitR M M' b) (hs : h a (-1) = (ci : Int) + 1) (k : Runs G M' (vR a :: as) h (fun r h' => AZ G M (b.1 - (mQ M').cells, b.2 - (mQ M').slots) (pc + 3) ls (r.toList ++ st') h' Z)) : AZ G M b pc ls st h Z := by
  intro p e s m args below meth c H locs cells slots la C K R o1 o2 L S B c1 c2
  obtain ⟨l1, l2, l3, l4, l5⟩ := hl
  obtain ⟨f1, f2, f3, f4⟩ := hf
  obtain ⟨q, hq, hqc⟩ := hcl
  obtain ⟨-, w10⟩ := cl_all hq
  have hts := C.2.2.2.2.2.1
  subst hst
  obtain ⟨a1, a2⟩ := R.2.2.2.1 a (by omega)
  have he := cls_at (G := G) a1 a2
  rw [enc_obj hs w10] at he
  have oa : ∀ v ∈ vR a :: as, okV v := fun v hv => by
    rcases List.mem_cons.mp hv with rfl | hv
    · exact o2 _ (List.mem_append_right _ List.mem_cons_self)
    · exact o2 v (List.mem_append_left _ (List.mem_reverse.mpr hv))
  have e0 : cv G (vR a) = .ref (adr G a) := cv_ref (by omega)
  have hpp := PP.pre C K R S B oa
  rw [List.map_cons, e0] at hpp
  have hrv := va_recv K.1 R.1 hq he
  rw [hqc] at hrv
  refine aw_back (M' := M') C K o1 (fun v hv => o2 v (List.mem_append_right _ (List.mem_cons_of_mem _ hv))) L S B c1 c2 ⟨f3, f4⟩ (va_runV (As := as.map (cv G)) (rest := st'.map (cv G)) (b := adr G a) (C := (mY M').cls) ⟨C.1, C.2.1, C.2.2.2.1, C.2.2.2.2.1, hts⟩ k ⟨callB_of as.length hts l1.in rfl rfl rfl (hts _ l1.2.1) (hts _ l2) ⟨l1.2.2.1, l1.2.2.2, l5⟩ ⟨f1, f2⟩, hts _ l3, hts _ l4⟩ ⟨PP.blind, hrv, hpp⟩ rfl (by simp) L.1 ?_ (lv_room (by rw [catS_eq]; exact hc)) hd ⟨by omega, by omega⟩)
  show ((as.reverse ++ vR a :: st').map (cv G)) = _
  rw [List.map_append, List.map_reverse, List.map_cons, e0]
theorem aw_callI {idx : Nat} {M' : MT} {a : Int} (as st' : List VV) (hl : lkI (mY M).cls idx M' as.length) (hd : decode (mC M) pc = .ok (.invokespecial idx, 3)) (hst : st = as.reverse ++ vR a :: st') (hc : catS st' ≤ 8) (hf : fitR M M' b) (ha : a ≠ 0) (k : Runs G M' (vR a :: as) h (fun r h' => AZ G M (b.1 - (mQ M').cells, b.2 - (mQ M').slots) (pc + 3) ls (r.toList ++ st') h' Z)) : AZ G M b pc ls st h Z := by
  intro p e s m args below meth c H locs cells slots la C K R o1 o2 L S B c1 c2
  obtain ⟨l1, l2, l3, l4, l5, l6⟩ := hl
  obtain ⟨f1, f2, f3, f4⟩ := hf
  have hts := C.2.2.2.2.2.1
  subst hst
  have oa : ∀ v ∈ vR a :: as, okV v := fun v hv => by
    rcases List.mem_cons.mp hv with rfl | hv
    · exact o2 _ (List.mem_append_right _ List.mem_cons_self)
    · exact o2 v (List.mem_append_left _ (List.mem_reverse.mpr hv))
  have e0 : cv G (vR a) = .ref (adr G a) := cv_ref ha
  have hpp := PP.pre C K R S B oa
  rw [List.map_cons, e0] at hpp
  have hB := callB_of (R := mQ M) (rm := mQ M') (own := (mY M).cls) (index := idx) as.length hts l1.in rfl rfl rfl (hts _ l1.2.1) (hts _ l2) ⟨l1.2.2.1, l1.2.2.2, l6⟩ ⟨f1, f2⟩
  rw [l5] at hB
  refine aw_back (M' := M') C K o1 (fun v hv => o2 v (List.mem_append_right _ (List.mem_cons_of_mem _ hv))) L S B c1 c2 ⟨f3, f4⟩ (va_runI (As := as.map (cv G)) (rest := st'.map (cv G)) (b := adr G a) ⟨C.1, C.2.1, C.2.2.2.1, C.2.2.2.2.1, hts⟩ k ⟨hB, l4, hts _ l3⟩ ⟨PP.blind, hpp⟩ rfl (by simp) L.1 ?_ (lv_room (by rw [catS_eq]; exact hc)) hd ⟨by omega, by omega⟩)
  show ((as.reverse ++ vR a :: st').map (cv G)) = _
  rw [List.map_append, List.map_reverse, List.map_cons, e0]
theorem aw_callIN {idx : Nat} {M' : MT} {a : Int} (as st' : List VV) (hl : lkIN (mY M).cls idx M' as.length) (hd : decode (mC M) pc = .ok (.invokespecial idx, 3)) (hst : st = as.reverse ++ vR a :: st') (hc : catS st' ≤ 8) (hf : fitR M M' b) (ha : a ≠ 0) (k : Runs G M' (vR a :: as) h (fun r h' => AZ G M (b.1 - (mQ M').cells, b.2 - (mQ M').slots) (pc + 3) ls (r.toList ++ st') h' Z)) : AZ G M b pc ls st h Z := by
  intro p e s m args below meth c H locs cells slots la C K R o1 o2 L S B c1 c2
  obtain ⟨l1, ⟨hk, l2⟩, l3, l4, l5, l6⟩ := hl
  obtain ⟨f1, f2, f3, f4⟩ := hf
  have hts := C.2.2.2.2.2.1
  subst hst
  have oa : ∀ v ∈ vR a :: as, okV v := fun v hv => by
    rcases List.mem_cons.mp hv with rfl | hv
    · exact o2 _ (List.mem_append_right _ List.mem_cons_self)
    · exact o2 v (List.mem_append_left _ (List.mem_reverse.mpr hv))
  have e0 : cv G (vR a) = .ref (adr G a) := cv_ref ha
  have hpp := PP.pre C K R S B oa
  rw [List.map_cons, e0] at hpp
  have hB := va_cnB (R := mQ M) (rm := mQ M') (own := (mY M).cls) (index := idx) as.length hts l1.in rfl rfl rfl (K.2.1 _ l2) (hts _ l1.2.1) ⟨l1.2.2.1, l1.2.2.2, l6⟩ ⟨f1, f2⟩
  rw [l5] at hB
  refine aw_back (M' := M') C K o1 (fun v hv => o2 v (List.mem_append_right _ (List.mem_cons_of_mem _ hv))) L S B c1 c2 ⟨f3, f4⟩ (va_runIN (As := as.map (cv G)) (rest := st'.map (cv G)) (b := adr G a) ⟨C.1, C.2.1, C.2.2.2.1, C.2.2.2.2.1, hts⟩ k ⟨hB, l4, hts _ l3⟩ ⟨PP.blind, hpp⟩ rfl (by simp) L.1 ?_ (lv_room (by rw [catS_eq]; exact hc)) hd ⟨by omega, by omega⟩)
  show ((as.reverse ++ vR a :: st').map (cv G)) = _
  rw [List.map_append, List.map_reverse, List.map_cons, e0]
/-- Object's constructor -/
theorem aw_obj {idx : Nat} {a : Int} (hl : Cond.methodLink (mY M).cls idx Lib.objectInit ∈ gw ∧ Cond.instanceMethod Lib.objectInit ∈ gw ∧ Cond.code Lib.objectInit ⟨#[0xb1]⟩ 1 none ∈ gw) (hd : decode (mC M) pc = .ok (.invokespecial idx, 3)) (ha : a ≠ 0) (hr : 1 ≤ (mQ M).frames ∧ catS st + 12 ≤ (mQ M).locals) (k : AZ G M b (pc + 3) ls st h Z) : AZ G M b pc ls (vR a :: st) h Z := by
  intro p e s m args below meth c H locs cells slots la C K R o1 o2 L S B c1 c2
  have hts := C.2.2.2.2.2.1
  rw [List.map_cons, cv_ref ha]
  refine W.objInit C.1 C.2.1 C.2.2.2.2.1 (hts _ hl.1) (hts _ hl.2.1) (hts _ hl.2.2) rfl (L.1.trans C.2.2.2.1.symm) rfl hd hr.1 ?_ (k p e s m args below meth c H locs cells slots la C K R o1 (i_tail o2) L S B c1 c2)
  rw [catS_eq]
  show 2 * 0 + _ + 12 ≤ _
  omega
end AR7
