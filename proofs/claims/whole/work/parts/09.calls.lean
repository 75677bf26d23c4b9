/-! rows of the abstract machine, fifth part: new cells, answers, calls -/
theorem nw_top {h : Hp} {c n : Int} (h0 : 0 ≤ h 0 0) : nw h c n 0 0 = h 0 0 + 1 := by
  unfold nw
  rw [if_neg (by omega), if_pos ⟨rfl, rfl⟩]
theorem nw_new {h : Hp} {c n j : Int} : nw h c n (h 0 0 + 1) j = if j = -1 then c else if j = -2 then n else 0 := by
  unfold nw
  rw [if_pos rfl]
theorem nw_off {h : Hp} {c n b j : Int} (hb : b ≠ h 0 0 + 1) (h1 : 1 ≤ b) : nw h c n b j = h b j := by
  unfold nw
  rw [if_neg hb, if_neg (by omega)]
theorem nw_row {h : Hp} {c n b : Int} (hb : b ≠ h 0 0 + 1) (h1 : 1 ≤ b) : nw h c n b = h b := funext fun _ => nw_off hb h1
theorem okH_nw {h : Hp} {c n : Int} (ho : okH h) (h0 : 0 ≤ n) (h1 : n < 2147483648) : okH (nw h c n) := by
  obtain ⟨o1, o2, o3, o4⟩ := ho
  have t := nw_top (h := h) (c := c) (n := n) o1
  refine ⟨by omega, fun a ha => ?_, fun a k a1 a2 hk => ?_, fun a a1 a2 => ?_⟩
  · by_cases e : a = h 0 0 + 1
    · omega
    · unfold nw at ha
      rw [if_neg e, if_neg (by omega)] at ha
      have := o2 a ha
      omega
  · by_cases e : a = h 0 0 + 1
    · subst e
      rw [nw_new, if_neg (by omega), if_neg (by omega)]
      exact inI_0
    · rw [nw_off e a1]
      exact o3 a k a1 (by omega) hk
  · by_cases e : a = h 0 0 + 1
    · subst e
      rw [nw_new, if_neg (by omega), if_pos rfl]
      exact ⟨h0, h1⟩
    · rw [nw_off e a1]
      exact o4 a a1 (by omega)
theorem Rel.next {G : GG} {h : Hp} {H : Heap} (R : Rel G h H) : adr G (h 0 0 + 1) = H.size := by
  have h0 := R.2.2.1
  rw [adr_pos (by omega), R.2.1]
  omega
theorem Rel.push {G : GG} {h h' : Hp} {H H1 : Heap} (R : Rel G h H) (h3 : h' 0 0 = h 0 0 + 1) (h4 : ∀ b, 1 ≤ b → b ≤ h 0 0 → h' b = h b) (z : H1.size = H.size + 1) (oq : ∀ q : Nat, q < H.size → H1[q]? = H[q]?) (hv : va_at G.2.1 vwCl (adr G (h 0 0 + 1), enc G (h' (h 0 0 + 1))) H1) (ok : okH h') : Rel G h' H1 := by
  have h0 := R.2.2.1
  refine ⟨?_, by rw [z, h3, R.2.1]; omega, ok⟩
  rw [cls_push h0 h3 h4]
  refine (R.1.kept (fun k x hx => oq _ ((R.1 k x hx).lt))).app (fun k x hx => ?_)
  have hz : k < 1 := (List.getElem?_eq_some_iff.mp hx).1
  rw [show k = 0 by omega] at hx
  cases hx
  exact hv
theorem va_S_grow {A : Nat → Prop} {H0 H H1 : Heap} {locs : List Loc} (S : va_S A H0 H locs) (z : H1.size = H.size + 1) (oq : ∀ q : Nat, q < H.size → H1[q]? = H[q]?) : va_S A H0 H1 locs :=
  ⟨Nat.le_trans S.1 (by omega), fun q h1 h2 => (oq q (Nat.lt_of_lt_of_le h1 S.1)).trans (S.2.1 q h1 h2), S.2.2⟩
/-- the array types that are made by newarray -/
def na (t : ArrayType) (code : Int) (t0 : Nat) : Prop := 12 ≤ code ∧ code ≤ 22 ∧ Cond.arrayClass (newarray.typeOf t) ∈ gw ∧ (∀ G : GG, (tysOf G)[t0]? = some (gY G code, newarray.typeOf t)) ∧ defaultValue (newarray.typeOf t) = .int 0 ∧ componentBytes (newarray.typeOf t) ≤ 8 ∧ ∀ (s : State) (c : ClassId), va_RA s c (newarray.typeOf t) → s.vm.findClass ("[" ++ (newarray.typeOf t).toString) = some c
section AR5
variable {G : GG} {M : MT} {b : Nat × Nat} {pc : Nat} {ls : List (Nat × VV)} {st : List VV} {h : Hp} {Z : LZ}
theorem aw_newa {t : ArrayType} {code n : Int} {t0 : Nat} (hna : na t code t0) (hd : decode (mC M) pc = .ok (.newarray t, 2)) (h0 : 0 ≤ n) (h1 : n ≤ 60000) (ht : inI (h 0 0 + 1)) (hb1 : 1 ≤ b.1) (hb2 : n.toNat ≤ b.2) (kk : AZ G M (b.1 - 1, b.2 - n.toNat) (pc + 2) ls (vR (h 0 0 + 1) :: st) (nw h code n) Z) : AZ G M b pc ls (vI n :: st) h Z := by
  intro p e s m args below meth c H locs cells slots la C K R o1 o2 L S B c1 c2
  obtain ⟨n1, n2, n3, n4, n5, n6, n7⟩ := hna
  have hn : inI n := i_head o2
  have hN : (Int32.ofInt n).toNatClampNeg = n.toNat := i_clamp hn
  rw [List.map_cons]
  refine va_newaK C.1 C.2.1 (C.2.2.2.2.2.1 _ n3) rfl hd rfl (fun q => by have := (i_lt hn inI_0).mp q; omega) hN (Nat.le_trans (Nat.mul_le_mul (show n.toNat ≤ 60000 by omega) n6) (by decide)) (by omega) (by omega) rfl fun H1 cA e1 z oq hAr hNm => ?_
  have hcA : cA = gY G code := Option.some.inj (hNm.symm.trans (n7 s _ (K.1.2 t0 _ (n4 G)).2))
  subst hcA
  have h00 := R.2.2.1
  have W1 := kk p e s m args below meth c H1 locs (cells + 1) (slots + n.toNat) la C K (R.push (nw_top h00) (fun b b1 b2 => nw_row (by omega) b1) z oq ?_ (okH_nw R.2.2 h0 (by omega))) o1 (i_cons ht (i_tail o2)) L (va_S_grow S z oq) B (by dsimp only; omega) (by dsimp only; omega)
  · rw [List.map_cons, cv_ref (by omega), R.next] at W1
    exact W1
  · have e2 : nw h code n (h 0 0 + 1) (-1) = code := by rw [nw_new, if_pos rfl]
    have e3 : nw h code n (h 0 0 + 1) (-2) = n := by rw [nw_new, if_neg (by decide), if_pos rfl]
    rw [enc_arr (by omega) (by omega), e2, e3, R.next]
    show H1[H.size]? = some (vp_cell _ _)
    rw [e1, vp_cell_i, n5]
    congr 2
    funext j
    rw [nw_new, if_neg (by omega), if_neg (by omega)]
    rfl
theorem aw_anew {n : Int} {idx : Nat} (t0 ci : Nat) (hq : aq t0 ci) (hl : ∀ q, vwCl[ci]? = some q → Cond.classLink (mY M).cls idx q.1 ∈ gw ∧ q.1 ∈ aoL) (hd : decode (mC M) pc = .ok (.anewarray idx, 3)) (h0 : 0 ≤ n) (h1 : n ≤ 60000) (ht : inI (h 0 0 + 1)) (hb1 : 1 ≤ b.1) (hb2 : n.toNat ≤ b.2) (kk : AZ G M (b.1 - 1, b.2 - n.toNat) (pc + 3) ls (vR (h 0 0 + 1) :: st) (nw h ((ci : Int) + 30) n) Z) : AZ G M b pc ls (vI n :: st) h Z := by
  intro p e s m args below meth c H locs cells slots la C K R o1 o2 L S B c1 c2
  obtain ⟨q, hq1, hq2⟩ := hq
  have hn : inI n := i_head o2
  have hN : (Int32.ofInt n).toNatClampNeg = n.toNat := i_clamp hn
  rw [List.map_cons]
  refine W.anew C.1 C.2.1 C.2.2.2.2.1 (C.2.2.2.2.2.1 _ (hl q hq1).1) (va_AO.use (K.2.2.2.2.2.2 _ (hl q hq1).2)) rfl hd rfl (fun q => by have := (i_lt hn inI_0).mp q; omega) (by rw [hN]; omega) (by omega) (by rw [hN]; omega) fun cA kA comp f1 f2 f3 f4 => ?_
  rw [hN]
  generalize hH1 : H.push ({ cls := cA, slots := Array.replicate n.toNat .null, vm := .none } : Cell) = H1
  have z : H1.size = H.size + 1 := by rw [← hH1, Array.size_push]
  have e1 : H1[H.size]? = some (arrV cA n.toNat (fun _ => .null)) := by rw [← hH1, Array.getElem?_push_size, ← arrV_new]
  have oq : ∀ q : Nat, q < H.size → H1[q]? = H[q]? := fun q hq => by rw [← hH1, Array.getElem?_push, if_neg (Nat.ne_of_lt hq)]
  obtain ⟨kA', comp', k1, k2, k3, k4⟩ := (K.1.2 t0 _ (hq2 G)).2
  have hcA : cA = gY G ((ci : Int) + 30) := Option.some.inj (f1.symm.trans k4)
  subst hcA
  have h00 := R.2.2.1
  have W1 := kk p e s m args below meth c H1 locs (cells + 1) (slots + n.toNat) la C K (R.push (nw_top h00) (fun b b1 b2 => nw_row (by omega) b1) z oq ?_ (okH_nw R.2.2 h0 (by omega))) o1 (i_cons ht (i_tail o2)) L (va_S_grow S z oq) B (by dsimp only; omega) (by dsimp only; omega)
  · rw [List.map_cons, cv_ref (by omega), R.next] at W1
    exact W1
  · have e2 : nw h ((ci : Int) + 30) n (h 0 0 + 1) (-1) = (ci : Int) + 30 := by rw [nw_new, if_pos rfl]
    have e3 : nw h ((ci : Int) + 30) n (h 0 0 + 1) (-2) = n := by rw [nw_new, if_neg (by decide), if_pos rfl]
    rw [enc_arq (by omega), e2, e3, R.next]
    show H1[H.size]? = some (vp_cell _ _)
    rw [e1, vp_cell_q]
    congr 2
    funext j
    rw [nw_new, if_neg (by omega), if_neg (by omega)]
    rfl
theorem aw_new {idx : Nat} (ci : Nat) (hl : ∃ q, vwCl[ci]? = some q ∧ Cond.classLink (mY M).cls idx q.1 ∈ gw) (hd : decode (mC M) pc = .ok (.new idx, 3)) (ht : inI (h 0 0 + 1)) (hb1 : 1 ≤ b.1) (hb2 : nF ci ≤ b.2) (kk : AZ G M (b.1 - 1, b.2 - nF ci) (pc + 3) ls (vR (h 0 0 + 1) :: st) (nw h ((ci : Int) + 1) 0) Z) : AZ G M b pc ls st h Z := by
  intro p e s m args below meth c H locs cells slots la C K R o1 o2 L S B c1 c2
  obtain ⟨q, hq, hcl⟩ := hl
  obtain ⟨⟨w1, w2, w3, w4, w5, w6, w7, w8, -⟩, w10⟩ := cl_all hq
  have hts := C.2.2.2.2.2.1
  have hKn := K.1.1 ci _ hq
  refine W.newcK C.1 C.2.1 C.2.2.2.2.1 (hts _ hcl) (hts _ w5) (hts _ w6) rfl hd (by omega) (by omega) hKn.2.1 rfl fun H1 kC hkC e1 z oq => ?_
  have h00 := R.2.2.1
  have W1 := kk p e s m args below meth c H1 locs (cells + 1) (slots + q.2.2) la C K (R.push (nw_top h00) (fun b b1 b2 => nw_row (by omega) b1) z oq ?_ (okH_nw R.2.2 (Int.le_refl 0) (by decide))) o1 (i_cons ht o2) L (va_S_grow S z oq) B (by dsimp only; omega) (by dsimp only; omega)
  · rw [List.map_cons, cv_ref (by omega), R.next] at W1
    exact W1
  · have e2 : nw h ((ci : Int) + 1) 0 (h 0 0 + 1) (-1) = (ci : Int) + 1 := by rw [nw_new, if_pos rfl]
    rw [enc_obj e2 w10, R.next]
    refine ⟨q, hq, (u_born (tyOf ci) hts w1 hKn hkC e1 w2).to (fun j hj => ?_)⟩
    rw [encO_V (by omega), nw_new, if_neg (by omega), if_neg (by omega)]
    unfold fv
    by_cases hr : fR ci j = true
    · rw [if_pos hr]
      rcases w8 j hj hr with ⟨n, e⟩ | ⟨n, e⟩ <;> rw [e] <;> rfl
    · rw [if_neg hr]
      rcases w7 j hj (by simpa using hr) with e | e <;> rw [e] <;> rfl
end AR5
section AR6
variable {G : GG} {M : MT} {b : Nat × Nat} {pc : Nat} {ls : List (Nat × VV)} {st : List VV} {h : Hp} {Q : Option VV → Hp → Prop}
theorem aw_iret {x : Int} (hd : decode (mC M) pc = .ok (.ireturn, 1)) (hr : mR M = some .int) (hq : Q (some (vI x)) h) : AW G M b pc ls [vI x] h Q := by
  intro p e s m args below meth c H locs cells slots la C K R o1 o2 L S B c1 c2
  refine W.widen (k := (mQ M).cells) (n := (mQ M).slots) (by omega) (by omega) ?_
  exact W.iret (Qc := QQ G Q) C.1 C.2.1 (C.2.2.1.trans hr) (fun t ht hW => ⟨⟨some (vI x), h, hq, fun v hv => by cases hv; exact i_head o2, rfl, by rw [ht]; exact R⟩, S.F ht⟩) S.2.2 hd C.2.2.2.2.2.2.1
theorem aw_zret {x : Int} (hd : decode (mC M) pc = .ok (.ireturn, 1)) (hr : mR M = some .boolean) (hx : x = 0 ∨ x = 1) (hq : Q (some (vI x)) h) : AW G M b pc ls [vI x] h Q := by
  intro p e s m args below meth c H locs cells slots la C K R o1 o2 L S B c1 c2
  refine W.widen (k := (mQ M).cells) (n := (mQ M).slots) (by omega) (by omega) ?_
  exact W.zret (Qc := QQ G Q) C.1 C.2.1 (C.2.2.1.trans hr) (by rcases hx with rfl | rfl <;> decide) (fun t ht hW => ⟨⟨some (vI x), h, hq, fun v hv => by cases hv; exact i_head o2, rfl, by rw [ht]; exact R⟩, S.F ht⟩) S.2.2 hd C.2.2.2.2.2.2.1
/-- an answer of another small type: it fits -/
theorem aw_xret {x : Int} {ty : FieldType} (hd : decode (mC M) pc = .ok (.ireturn, 1)) (hr : mR M = some ty) (hx : narrow ty (.int (Int32.ofInt x)) = .int (Int32.ofInt x)) (hq : Q (some (vI x)) h) : AW G M b pc ls [vI x] h Q := by
  intro p e s m args below meth c H locs cells slots la C K R o1 o2 L S B c1 c2
  refine W.widen (k := (mQ M).cells) (n := (mQ M).slots) (by omega) (by omega) ?_
  exact W.zret (Qc := QQ G Q) C.1 C.2.1 (C.2.2.1.trans hr) hx (fun t ht hW => ⟨⟨some (vI x), h, hq, fun v hv => by cases hv; exact i_head o2, rfl, by rw [ht]; exact R⟩, S.F ht⟩) S.2.2 hd C.2.2.2.2.2.2.1
theorem aw_vret (hd : decode (mC M) pc = .ok (.return_, 1)) (hr : mR M = none) (hq : Q none h) : AW G M b pc ls [] h Q := by
  intro p e s m args below meth c H locs cells slots la C K R o1 o2 L S B c1 c2
  refine W.widen (k := (mQ M).cells) (n := (mQ M).slots) (by omega) (by omega) ?_
  exact W.vret (Qc := QQ G Q) C.1 C.2.1 (C.2.2.1.trans hr) (fun t ht hW => ⟨⟨none, h, hq, fun v hv => (by cases hv), rfl, by rw [ht]; exact R⟩, S.F ht⟩) S.2.2 hd C.2.2.2.2.2.2.1
theorem aw_aret {a : Int} {ty : FieldType} (hd : decode (mC M) pc = .ok (.areturn, 1)) (hr : mR M = some ty) (ht : isRT ty = true) (hq : Q (some (vR a)) h) : AW G M b pc ls [vR a] h Q := by
  intro p e s m args below meth c H locs cells slots la C K R o1 o2 L S B c1 c2
  refine W.widen (k := (mQ M).cells) (n := (mQ M).slots) (by omega) (by omega) ?_
  exact W.aret (Qc := QQ G Q) C.1 C.2.1 (C.2.2.1.trans hr) (isRT_of ht) (va_rf_or _) (fun t ht hW => ⟨⟨some (vR a), h, hq, fun v hv => by cases hv; exact i_head o2, rfl, by rw [ht]; exact R⟩, S.F ht⟩) S.2.2 hd C.2.2.2.2.2.2.1
end AR6
def lva : Nat → List VV → List (Nat × VV)
  | _, [] => []
  | i, v :: vs => (i, v) :: lva (if isLg v = true then i + 2 else i + 1) vs
theorem lva_eq {G : GG} : ∀ (as : List VV) (i : Nat), lv_args i (as.map (cv G)) = lvs G (lva i as)
  | [], _ => rfl
  | v :: vs, i => by
    have hc := cv_cat (G := G) v
    show (i, cv G v) :: lv_args (if (cv G v).category = 2 then i + 2 else i + 1) (vs.map (cv G)) = (i, cv G v) :: lvs G (lva (if isLg v = true then i + 2 else i + 1) vs)
    rw [lva_eq vs]
    congr 3
    by_cases hv : isLg v = true
    · rw [hv] at hc
      rw [if_pos hv, if_pos (by simpa using hc)]
    · have hf : isLg v = false := by simpa using hv
      rw [hf] at hc
      rw [if_neg hv, if_neg (by simpa using hc)]
def lvn (as : List VV) : Nat := (as.map (fun v => if isLg v = true then 2 else 1)).sum
theorem lvn_eq {G : GG} : ∀ (as : List VV), (lg_sl (as.map (cv G))).length = lvn as
  | [] => rfl
  | v :: vs => by
    have hc := cv_cat (G := G) v
    have ih := lvn_eq (G := G) vs
    unfold lg_sl at ih ⊢
    rw [List.map_cons, List.flatMap_cons, List.length_append, ih]
    unfold lvn
    rw [List.map_cons, List.sum_cons]
    congr 1
    by_cases hv : isLg v = true
    · rw [hv] at hc
      rw [if_pos hv, if_pos (by simpa using hc)]
      rfl
    · have hf : isLg v = false := by simpa using hv
      rw [hf] at hc
      rw [if_neg hv, if_neg (by simpa using hc)]
      rfl
theorem lva_ok : ∀ (as : List VV) (i : Nat), (∀ v ∈ as, okV v) → ∀ q ∈ lva i as, okV q.2
  | [], _, _, q, hq => by cases hq
  | v :: vs, i, h, q, hq => by
    rcases List.mem_cons.mp hq with rfl | hq
    · exact h v List.mem_cons_self
    · exact lva_ok vs _ (fun w hw => h w (List.mem_cons_of_mem _ hw)) q hq
/-- a contract out of the walk of the method's body -/
theorem Runs.of {G : GG} {M : MT} {as : List VV} {h : Hp} {Q : Option VV → Hp → Prop} (hy : plainName (mY M).cls = true) (hn : lvn as ≤ mL M) (k : AW G M ((mQ M).cells, (mQ M).slots) 0 (lva 0 as) [] h Q) : Runs G M as h Q := by
  refine Met.ofW (cc := mC M) (maxL := mL M) (ret := mR M) hy rfl ?_
  intro p e s m args below meth c s₁ B hml hv
  obtain ⟨rfl, ho, hR, hK, hB⟩ := hv
  have hts := atoms_spec (ws := wsM M) B.pre
  rw [lg_entry_eq]
  have hl := lv_entry (as.map (cv G)) (n := mL M) (by rw [lvn_eq]; exact hn)
  rw [lva_eq] at hl
  exact k p e s m _ below meth c s.heap [] 0 0 _ ⟨B.exec, B.bytes, B.returns, hml, findClass_of_methodNamed B.named, fun w hw => hts w (List.mem_cons_of_mem _ hw), B.notSynchronized, (name_of_methodNamed B.named B.method).1⟩ hK hR (lva_ok as 0 ho) (fun v hv => by cases hv) hl va_S.rf hB (by dsimp only; omega) (by dsimp only; omega)
