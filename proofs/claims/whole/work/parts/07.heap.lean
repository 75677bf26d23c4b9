/-! rows of the abstract machine, third part: fields, arrays, new cells -/
def tyOf (c : Nat) : Nat → FieldType := match c with
  | 0 => tyX0
  | 1 => tyX1
  | 2 => tyX2
  | 3 => tyX3
  | 4 => tyX4
  | 5 => tyX5
  | 6 => tyX6
  | 7 => tyX7
  | 8 => tyX8
  | 9 => tyX9
  | _ => tyX10
/-- what the tables say of a class of ours -/
def clOk (ci : Nat) (q : vw_C) : Prop := (∀ w ∈ u_ws q.1 q.2.1 q.2.2, w ∈ gw) ∧ (∀ k, k < q.2.2 → parseFieldDescriptor (q.2.1 k).2.2.1 = some (tyOf ci k)) ∧ (∀ a, a < q.2.2 → ∀ b, b < q.2.2 → a ≠ b → (q.2.1 a).2.1 ≠ (q.2.1 b).2.1) ∧ q.2.2 = nF ci ∧ Cond.instantiable q.1 q.2.2 ∈ gw ∧ Cond.initialized q.1 ∈ gw ∧ (∀ k, k < q.2.2 → fR ci k = false → tyOf ci k = .int ∨ tyOf ci k = .boolean) ∧ (∀ k, k < q.2.2 → fR ci k = true → (∃ n, tyOf ci k = .object n) ∨ ∃ t, tyOf ci k = .array t) ∧ ∀ k, k < q.2.2 → (q.2.1 k).1 = q.1
def isRT (t : FieldType) : Bool := match t with
  | .object _ => true
  | .array _ => true
  | _ => false
theorem isRT_of {t : FieldType} (h : isRT t = true) : (∃ n, t = .object n) ∨ ∃ u, t = .array u := by
  cases t <;> first | exact Or.inl ⟨_, rfl⟩ | exact Or.inr ⟨_, rfl⟩ | cases h
def clDec (ci : Nat) (q : vw_C) : Bool := ((u_ws q.1 q.2.1 q.2.2).all (fun w => decide (w ∈ lw_tbl) && goodWord w)) && decide (q.2.2 = nF ci) && (decide (Cond.instantiable q.1 q.2.2 ∈ lw_tbl) && goodWord (Cond.instantiable q.1 q.2.2)) && (decide (Cond.initialized q.1 ∈ lw_tbl) && goodWord (Cond.initialized q.1)) && (List.range q.2.2).all (fun k => (if fR ci k then isRT (tyOf ci k) else (decide (tyOf ci k = .int) || decide (tyOf ci k = .boolean))) && decide ((q.2.1 k).1 = q.1))
theorem gw_of {w : Cond} (h : (decide (w ∈ lw_tbl) && goodWord w) = true) : w ∈ gw := by
  rw [Bool.and_eq_true, decide_eq_true_eq] at h
  exact List.mem_filter.mpr h
theorem clOk_of {ci : Nat} {q : vw_C} (h : clDec ci q = true) (ht : ∀ k, k < q.2.2 → parseFieldDescriptor (q.2.1 k).2.2.1 = some (tyOf ci k)) (hn : ∀ a, a < q.2.2 → ∀ b, b < q.2.2 → a ≠ b → (q.2.1 a).2.1 ≠ (q.2.1 b).2.1) : clOk ci q := by
  unfold clDec at h
  simp only [Bool.and_eq_true] at h
  obtain ⟨⟨⟨⟨h1, h2⟩, h3⟩, h4⟩, h5⟩ := h
  have h5' := List.all_eq_true.mp h5
  refine ⟨fun w hw => gw_of (List.all_eq_true.mp h1 w hw), ht, hn, decide_eq_true_eq.mp h2, gw_of (by rw [Bool.and_eq_true]; exact h3), gw_of (by rw [Bool.and_eq_true]; exact h4), fun k hk hr => ?_, fun k hk hr => ?_, fun k hk => ?_⟩
  · have h6 := h5' k (List.mem_range.mpr hk)
    simp only [hr, Bool.and_eq_true, Bool.or_eq_true, decide_eq_true_eq] at h6
    simpa using h6.1
  · have h6 := h5' k (List.mem_range.mpr hk)
    simp only [hr, Bool.and_eq_true, if_true] at h6
    exact isRT_of h6.1
  · have h6 := h5' k (List.mem_range.mpr hk)
    simp only [Bool.and_eq_true, decide_eq_true_eq] at h6
    exact h6.2
theorem cl0 : clOk 0 (RX0, TX0, 3) := clOk_of (by decide +kernel) tyX0_ok nmX0
theorem cl1 : clOk 1 (RX1, TX1, 16) := clOk_of (by decide +kernel) tyX1_ok nmX1
theorem cl2 : clOk 2 (RX2, TX2, 6) := clOk_of (by decide +kernel) tyX2_ok nmX2
theorem cl3 : clOk 3 (RX3, TX3, 4) := clOk_of (by decide +kernel) tyX3_ok nmX3
theorem cl4 : clOk 4 (RX4, TX4, 6) := clOk_of (by decide +kernel) tyX4_ok nmX4
theorem cl5 : clOk 5 (RX5, TX5, 10) := clOk_of (by decide +kernel) tyX5_ok nmX5
theorem cl6 : clOk 6 (RX6, TX6, 7) := clOk_of (by decide +kernel) tyX6_ok nmX6
theorem cl7 : clOk 7 (RX7, TX7, 6) := clOk_of (by decide +kernel) tyX7_ok nmX7
theorem cl8 : clOk 8 (RX8, TX8, 7) := clOk_of (by decide +kernel) tyX8_ok nmX8
theorem cl9 : clOk 9 (RX9, TX9, 6) := clOk_of (by decide +kernel) tyX9_ok nmX9
theorem cl10 : clOk 10 (RX10, TX10, 39) := clOk_of (by decide +kernel) tyX10_ok nmX10
theorem cl_all {ci : Nat} {q : vw_C} (h : vwCl[ci]? = some q) : clOk ci q ∧ ci ≤ 10 := by
  match ci, h with
  | 0, h => cases h; exact ⟨cl0, by decide⟩
  | 1, h => cases h; exact ⟨cl1, by decide⟩
  | 2, h => cases h; exact ⟨cl2, by decide⟩
  | 3, h => cases h; exact ⟨cl3, by decide⟩
  | 4, h => cases h; exact ⟨cl4, by decide⟩
  | 5, h => cases h; exact ⟨cl5, by decide⟩
  | 6, h => cases h; exact ⟨cl6, by decide⟩
  | 7, h => cases h; exact ⟨cl7, by decide⟩
  | 8, h => cases h; exact ⟨cl8, by decide⟩
  | 9, h => cases h; exact ⟨cl9, by decide⟩
  | 10, h => cases h; exact ⟨cl10, by decide⟩
  | k + 11, h => simp [vwCl] at h
/-- a field's link: the class whose code it stands in, its entry, the class and the field's place -/
def fl (own : String) (idx ci k : Nat) : Prop := ∃ q : vw_C, vwCl[ci]? = some q ∧ k < q.2.2 ∧ Cond.fieldLink own idx (q.2.1 k).1 (q.2.1 k).2.1 (q.2.1 k).2.2.1 ∈ gw
theorem enc_obj {G : GG} {r : Int → Int} {ci : Nat} (h : r (-1) = (ci : Int) + 1) (hc : ci ≤ 10) : enc G r = .inr (ci, encO G ci r) := by
  unfold enc
  rw [if_pos (by omega), h, show ((ci : Int) + 1 - 1).toNat = ci by omega]
theorem encO_at {G : GG} {ci k : Nat} {r : Int → Int} (h : k < nF ci) : (encO G ci r)[k]? = some (fv G ci k (r k)) := by
  unfold encO
  rw [List.getElem?_map, List.getElem?_range h]
  rfl
theorem encO_V {G : GG} {ci k : Nat} {r : Int → Int} (h : k < nF ci) : vp_V (encO G ci r) k = fv G ci k (r k) := by
  unfold vp_V
  rw [List.getD_eq_getElem?_getD, encO_at h]
  rfl
theorem enc_arr {G : GG} {r : Int → Int} (h1 : 12 ≤ r (-1)) (h2 : r (-1) ≤ 22) : enc G r = .inl (gY G (r (-1)), (r (-2)).toNat, .inl (fun j => Int32.ofInt (r j))) := by
  unfold enc
  rw [if_neg (by omega), if_pos h2]
theorem enc_arq {G : GG} {r : Int → Int} (h1 : 23 ≤ r (-1)) : enc G r = .inl (gY G (r (-1)), (r (-2)).toNat, .inr (.inr (.inr (.inr (fun j => rfo G (r j)))))) := by
  unfold enc
  rw [if_neg (by omega), if_neg (by omega)]
theorem wr_row {h : Hp} {a k x : Int} : wr h a k x a = fun j => if j = k then x else h a j := by
  funext j
  simp [wr]
theorem wr_off {h : Hp} {a b k x : Int} (hb : b ≠ a) : wr h a k x b = h b := by
  funext j
  simp [wr, hb]
theorem wr_top {h : Hp} {a k x : Int} (ha : 1 ≤ a) : wr h a k x 0 0 = h 0 0 := by
  rw [wr_off (by omega)]
theorem okH_wr {h : Hp} {a k x : Int} (ho : okH h) (h1 : 1 ≤ a) (hk : 0 ≤ k) (hx : inI x) : okH (wr h a k x) := by
  obtain ⟨o1, o2, o3, o4⟩ := ho
  have t := wr_top (h := h) (k := k) (x := x) h1
  refine ⟨by rw [t]; exact o1, fun c hc => ?_, fun c j c1 c2 hj => ?_, fun c c1 c2 => ?_⟩
  · rw [t]
    refine o2 c ?_
    unfold wr at hc
    rw [if_neg (by omega)] at hc
    exact hc
  · rw [t] at c2
    unfold wr
    split
    · exact hx
    · exact o3 c j c1 c2 hj
  · rw [t] at c2
    unfold wr
    rw [if_neg (by omega)]
    exact o4 c c1 c2
theorem Rel.row {G : GG} {h h' : Hp} {H H1 : Heap} {a : Int} (R : Rel G h H) (ha1 : 1 ≤ a) (ha2 : a ≤ h 0 0) (h3 : h' 0 0 = h 0 0) (h4 : ∀ b, 1 ≤ b → b ≠ a → h' b = h b) (oq : ∀ q : Nat, q ≠ adr G a → H1[q]? = H[q]?) (z : H1.size = H.size) (hv : va_at G.2.1 vwCl (adr G a, enc G (h' a)) H1) (ok : okH h') : Rel G h' H1 :=
  ⟨by rw [← cls_set ha1 ha2 h3 h4]; exact R.1.set cls_D (cls_at ha1 ha2) hv oq, by rw [z, h3]; exact R.2.1, ok⟩
theorem Rel.at {G : GG} {h : Hp} {H : Heap} {a : Int} (R : Rel G h H) (ha1 : 1 ≤ a) (ha2 : a ≤ h 0 0) : va_at G.2.1 vwCl (adr G a, enc G (h a)) H := R.1 _ _ (cls_at ha1 ha2)
theorem gA_adr {G : GG} {a : Int} (h : 1 ≤ a) : gA G (adr G a) := by
  show gB G < adr G a
  rw [adr_pos h]
  omega
theorem cv_ref {G : GG} {a : Int} (h : a ≠ 0) : cv G (vR a) = .ref (adr G a) := by simp [cv, rfo, h, va_rf]
section AR3
variable {G : GG} {M : MT} {b : Nat × Nat} {pc : Nat} {ls : List (Nat × VV)} {st : List VV} {h : Hp} {Z : LZ}
theorem aw_getI {idx ci k : Nat} {a x : Int} (hd : decode (mC M) pc = .ok (.getfield idx, 3)) (hf : fl (mY M).cls idx ci k) (hr : fR ci k = false) (hs : h a (-1) = (ci : Int) + 1) (hx : h a k = x) (kk : AZ G M b (pc + 3) ls (vI x :: st) h Z) : AZ G M b pc ls (vR a :: st) h Z := by
  intro p e s m args below meth c H locs cells slots la C K R o1 o2 L S B c1 c2
  obtain ⟨q, hq, hk, hl⟩ := hf
  obtain ⟨⟨w1, w2, w3, w4, -⟩, w10⟩ := cl_all hq
  obtain ⟨a1, a2⟩ := R.2.2.2.1 a (by omega)
  have he := cls_at (G := G) a1 a2
  rw [enc_obj hs w10] at he
  subst hx
  have hv := encO_at (G := G) (r := h a) (show k < nF ci by omega)
  simp only [fv, hr] at hv
  rw [List.map_cons, cv_ref (by omega)]
  exact va_get C.1 C.2.1 C.2.2.2.2.2.1 w1 C.2.2.2.2.1 K.1 R.1 _ he hq k hk (C.2.2.2.2.2.1 _ hl) (fun _ z => z) (v := .int (Int32.ofInt (h a k))) (by simpa using hv) hd (kk p e s m args below meth c H locs cells slots la C K R o1 (i_cons (R.2.2.2.2.1 a k a1 a2 (by omega)) (i_tail o2)) L S B c1 c2)
theorem aw_getR {idx ci k : Nat} {a x : Int} (hd : decode (mC M) pc = .ok (.getfield idx, 3)) (hf : fl (mY M).cls idx ci k) (hr : fR ci k = true) (hs : h a (-1) = (ci : Int) + 1) (hx : h a k = x) (kk : AZ G M b (pc + 3) ls (vR x :: st) h Z) : AZ G M b pc ls (vR a :: st) h Z := by
  intro p e s m args below meth c H locs cells slots la C K R o1 o2 L S B c1 c2
  obtain ⟨q, hq, hk, hl⟩ := hf
  obtain ⟨⟨w1, w2, w3, w4, -⟩, w10⟩ := cl_all hq
  obtain ⟨a1, a2⟩ := R.2.2.2.1 a (by omega)
  have he := cls_at (G := G) a1 a2
  rw [enc_obj hs w10] at he
  subst hx
  have hv := encO_at (G := G) (r := h a) (show k < nF ci by omega)
  simp only [fv, hr] at hv
  rw [List.map_cons, cv_ref (by omega)]
  exact va_get C.1 C.2.1 C.2.2.2.2.2.1 w1 C.2.2.2.2.1 K.1 R.1 _ he hq k hk (C.2.2.2.2.2.1 _ hl) (fun _ z => z) (v := va_rf (rfo G (h a k))) (by simpa using hv) hd (kk p e s m args below meth c H locs cells slots la C K R o1 (i_cons (R.2.2.2.2.1 a k a1 a2 (by omega)) (i_tail o2)) L S B c1 c2)
/-- a field is written, final or not: the value fits its type -/
theorem aw_putV {idx ci k : Nat} {a x : Int} {v : VV} (hd : decode (mC M) pc = .ok (.putfield idx, 3)) (hf : fl (mY M).cls idx ci k) (hfin : ∀ q, vwCl[ci]? = some q → (q.2.1 k).2.2.2 = true → (mY M).name = "<init>" ∧ q.1 = (mY M).cls) (hs : h a (-1) = (ci : Int) + 1) (hx : inI x) (hv : cv G v = fv G ci k x) (hn : narrow (tyOf ci k) (fv G ci k x) = fv G ci k x) (hfit : fits (tyOf ci k) (fv G ci k x) = true) (kk : AZ G M b (pc + 3) ls st (wr h a k x) Z) : AZ G M b pc ls (v :: vR a :: st) h Z := by
  intro p e s m args below meth c H locs cells slots la C K R o1 o2 L S B c1 c2
  obtain ⟨q, hq, hk, hl⟩ := hf
  obtain ⟨⟨w1, w2, w3, w4, -, -, -, -, w9⟩, w10⟩ := cl_all hq
  obtain ⟨a1, a2⟩ := R.2.2.2.1 a (by omega)
  have he := cls_at (G := G) a1 a2
  rw [enc_obj hs w10] at he
  rw [List.map_cons, List.map_cons, cv_ref (show a ≠ 0 by omega), hv]
  have hts := C.2.2.2.2.2.1
  have hap := va_apart (own := (mY M).cls) hts w1 (tyOf ci) w2 w3 K.1 hq
  obtain ⟨r, h1, cell, q1, q2, q3, q4⟩ := R.1 _ _ he
  have hr : r = q := Option.some.inj (h1.symm.trans hq)
  subst hr
  obtain ⟨hS, hfc, kC, hkC, hkind⟩ := K.1.1 ci _ hq
  obtain ⟨cf, kf, fi, f, hi, hsl⟩ := hS k hk
  have hst := (u_facts hfc hkC (u_lays hts w1 hk) hi).1
  have hlay := hts _ (w1 _ (u_in_lay hk))
  have fin : ∀ H1 : Heap, H1[adr G a]? = some (cell.setSlot f.slot (fv G ci k x)) → H1.size = H.size → (∀ q, q ≠ adr G a → H1[q]? = H[q]?) → Rel G (wr h a k x) H1 := by
    intro H1 e1 e2 e3
    rw [hsl] at e1
    refine R.row a1 a2 (wr_top a1) (fun b _ hb => wr_off hb) e3 e2 ?_ (okH_wr R.2.2 a1 (by omega) hx)
    rw [enc_obj (ci := ci) (by rw [wr_row]; simp only; rw [if_neg (by omega)]; exact hs) w10]
    refine ⟨_, hq, t_OB.to (V := updV (vp_V (encO G ci (h a))) k (fv G ci k x)) ⟨_, e1, q2, q3, t_set q4 hap hk (fv G ci k x)⟩ (fun j hj => ?_)⟩
    rw [encO_V (by omega)]
    unfold updV
    by_cases hjk : j = k
    · subst hjk
      rw [if_pos rfl, wr_row]
      simp
    · rw [if_neg hjk, encO_V (by omega), wr_row]
      simp only
      rw [if_neg (by omega)]
  by_cases hff : (r.2.1 k).2.2.2 = true
  · unfold u_lay at hlay
    rw [if_pos hff] at hlay
    have hcf : m.cls = cf := by
      obtain ⟨_, _, c', _, _, _, -, -, hf', -, -, -, hown2, -⟩ := Cond.laysFinal_spec hlay
      have e1 : c' = cf := by have := hi.symm.trans hf'; simp at this; exact this.1.symm
      rw [w9 k hk, (hfin r hq hff).2] at hown2
      rw [← e1]; exact Option.some.inj (C.2.2.2.2.1.symm.trans hown2)
    have h6 := u_fits hfc hkC hkind (Or.inr hlay) hi (w2 k hk) hn hfit
    refine W.putFinK C.1 C.2.1 C.2.2.2.2.1 (hts _ hl) hi hst hcf (C.2.2.2.2.2.2.2.trans (hfin r hq hff).1) (by rw [q2]; exact h6) q1 q3 (by rw [hsl]; exact k2_hasslot (q4 k hk)) rfl rfl hd fun H1 e1 e2 e3 => ?_
    exact kk p e s m args below meth c H1 _ cells slots la C K (fin H1 e1 e2 e3) o1 (i_tail2 o2) L (S.put e2 e3 (gA_adr a1)) B c1 c2
  · unfold u_lay at hlay
    rw [if_neg hff] at hlay
    have h6 := u_store hfc hkC hkind hlay hi (w2 k hk) hn hfit
    refine W.putK C.1 C.2.1 (f := f) ⟨C.2.2.2.2.1, hts _ hl, ⟨_, _, _, hi⟩, hst⟩ (by rw [q2]; exact h6) q1 q3 (by rw [hsl]; exact k2_hasslot (q4 k hk)) rfl rfl hd fun H1 e1 e2 e3 => ?_
    exact kk p e s m args below meth c H1 _ cells slots la C K (fin H1 e1 e2 e3) o1 (i_tail2 o2) L (S.put e2 e3 (gA_adr a1)) B c1 c2
/-- the field may be written here -/
def pf (M : MT) (ci k : Nat) : Prop := ∀ q : vw_C, vwCl[ci]? = some q → (q.2.1 k).2.2.2 = true → (mY M).name = "<init>" ∧ q.1 = (mY M).cls
theorem aw_putI {idx ci k : Nat} {a x : Int} (hd : decode (mC M) pc = .ok (.putfield idx, 3)) (hf : fl (mY M).cls idx ci k) (hfin : pf M ci k) (ht : tyOf ci k = .int) (hr : fR ci k = false) (hs : h a (-1) = (ci : Int) + 1) (kk : AZ G M b (pc + 3) ls st (wr h a k x) Z) : AZ G M b pc ls (vI x :: vR a :: st) h Z := by
  refine aw_use (fun o1 o2 oh => ?_)
  have e1 : fv G ci k x = .int (Int32.ofInt x) := by simp [fv, hr]
  exact aw_putV hd hf hfin hs (i_head o2) (by rw [e1]; rfl) (by rw [e1, ht]; rfl) (by rw [e1, ht]; rfl) kk
theorem aw_putZ {idx ci k : Nat} {a x : Int} (hd : decode (mC M) pc = .ok (.putfield idx, 3)) (hf : fl (mY M).cls idx ci k) (hfin : pf M ci k) (ht : tyOf ci k = .boolean) (hr : fR ci k = false) (hx : x = 0 ∨ x = 1) (hs : h a (-1) = (ci : Int) + 1) (kk : AZ G M b (pc + 3) ls st (wr h a k x) Z) : AZ G M b pc ls (vI x :: vR a :: st) h Z := by
  refine aw_use (fun o1 o2 oh => ?_)
  have e1 : fv G ci k x = .int (Int32.ofInt x) := by simp [fv, hr]
  exact aw_putV hd hf hfin hs (i_head o2) (by rw [e1]; rfl) (by rw [e1, ht]; rcases hx with rfl | rfl <;> decide) (by rw [e1, ht]; rcases hx with rfl | rfl <;> decide) kk
theorem aw_putR {idx ci k : Nat} {a x : Int} (hd : decode (mC M) pc = .ok (.putfield idx, 3)) (hf : fl (mY M).cls idx ci k) (hfin : pf M ci k) (ht : isRT (tyOf ci k) = true) (hr : fR ci k = true) (hs : h a (-1) = (ci : Int) + 1) (kk : AZ G M b (pc + 3) ls st (wr h a k x) Z) : AZ G M b pc ls (vR x :: vR a :: st) h Z := by
  refine aw_use (fun o1 o2 oh => ?_)
  have e1 : fv G ci k x = va_rf (rfo G x) := by simp [fv, hr]
  have hnf : ∀ v : Value, (v = .null ∨ ∃ q, v = .ref q) → narrow (tyOf ci k) v = v ∧ fits (tyOf ci k) v = true := by
    intro v hv
    rcases isRT_of ht with ⟨n, e⟩ | ⟨n, e⟩ <;> rw [e] <;> rcases hv with rfl | ⟨q, rfl⟩ <;> exact ⟨rfl, rfl⟩
  exact aw_putV hd hf hfin hs (i_head o2) (by rw [e1]; rfl) (by rw [e1]; exact (hnf _ (va_rf_or _)).1) (by rw [e1]; exact (hnf _ (va_rf_or _)).2) kk
end AR3
