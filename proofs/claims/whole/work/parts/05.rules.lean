/-! rows of the abstract machine: an instruction each -/
theorem i_toInt {x : Int} (h : inI x) : (Int32.ofInt x).toInt = x := by
  obtain ⟨h1, h2⟩ := h
  first
    | exact Int32.toInt_ofInt_of_le (by omega) (by omega)
    | (rw [Int32.toInt_ofInt]; exact Int.bmod_eq_of_le (by simp [Int32.size]; omega) (by simp [Int32.size]; omega))
theorem i_lt {x y : Int} (hx : inI x) (hy : inI y) : Int32.ofInt x < Int32.ofInt y ↔ x < y := by
  rw [Int32.lt_iff_toInt_lt, i_toInt hx, i_toInt hy]
theorem i_le {x y : Int} (hx : inI x) (hy : inI y) : Int32.ofInt x ≤ Int32.ofInt y ↔ x ≤ y := by
  rw [Int32.le_iff_toInt_le, i_toInt hx, i_toInt hy]
theorem i_eq {x y : Int} (hx : inI x) (hy : inI y) : Int32.ofInt x = Int32.ofInt y ↔ x = y := by
  constructor
  · intro h
    rw [← i_toInt hx, ← i_toInt hy, h]
  · intro h; rw [h]
theorem inI_0 : inI 0 := ⟨by decide, by decide⟩
theorem i_clamp {x : Int} (h : inI x) : (Int32.ofInt x).toNatClampNeg = x.toNat := by
  show (Int32.ofInt x).toInt.toNat = _
  rw [i_toInt h]
theorem i_in {x : Int} {n : Nat} (h : inI x) (h0 : 0 ≤ x) (hn : x < n) : vp_in (Int32.ofInt x) n := by
  rw [vp_in_iff, i_toInt h]
  exact ⟨h0, hn⟩
def isLg (v : VV) : Bool := match v with
  | Sum.inr (Sum.inl _) => true
  | _ => false
theorem cv_cat {G : GG} (v : VV) : ((cv G v).category == 2) = isLg v := by
  rcases v with x | x | a
  · rfl
  · rfl
  · show ((va_rf (rfo G a)).category == 2) = false
    rcases va_rf_or (rfo G a) with h | ⟨q, h⟩ <;> rw [h] <;> rfl
theorem cv_cat1 {G : GG} {v : VV} (h : isLg v = false) : (cv G v).category = 1 := by
  rcases v with x | x | a
  · rfl
  · cases h
  · show (va_rf (rfo G a)).category = 1
    rcases va_rf_or (rfo G a) with h | ⟨q, h⟩ <;> rw [h] <;> rfl
def stl (ls : List (Nat × VV)) (i : Nat) (v : VV) : List (Nat × VV) := (i, v) :: ls.filter (fun q => !(q.1 == i) && !(q.1 + 1 == i && isLg q.2))
theorem lvs_stl {G : GG} (ls : List (Nat × VV)) (i : Nat) (v : VV) : (i, cv G v) :: (lvs G ls).filter (fun q => !(q.1 == i) && !(q.1 + 1 == i && q.2.category == 2)) = lvs G (stl ls i v) := by
  unfold lvs stl
  rw [List.map_cons, List.filter_map]
  congr 2
  apply List.filter_congr
  intro q _
  simp only [Function.comp_apply, cv_cat]
theorem lvs_at {G : GG} {ls : List (Nat × VV)} {j i : Nat} {v : VV} (h : ls[j]? = some (i, v)) : (lvs G ls)[j]? = some (i, cv G v) := by
  unfold lvs
  rw [List.getElem?_map, h]
  rfl
theorem ok_stl {ls : List (Nat × VV)} {i : Nat} {v : VV} (h : ∀ q ∈ ls, okV q.2) (hv : okV v) : ∀ q ∈ stl ls i v, okV q.2 := by
  intro q hq
  rcases List.mem_cons.mp hq with rfl | hq
  · exact hv
  · exact h q (List.mem_filter.mp hq).1
section AR
variable {G : GG} {M : MT} {b : Nat × Nat} {pc : Nat} {ls : List (Nat × VV)} {st : List VV} {h : Hp} {Z : LZ}
theorem aw_iconst {n : Int} (hd : decode (mC M) pc = .ok (.iconst n, 1)) (hn : inI n) (k : AZ G M b (pc + 1) ls (vI n :: st) h Z) : AZ G M b pc ls st h Z := by
  intro p e s m args below meth c H locs cells slots la C K R o1 o2 L S B c1 c2
  exact lv_iconst C.1 C.2.1 hd rfl (k p e s m args below meth c H locs cells slots la C K R o1 (List.forall_mem_cons.mpr ⟨hn, o2⟩) L S B c1 c2)
theorem aw_bipush {n : Int} (hd : decode (mC M) pc = .ok (.bipush n, 2)) (hn : inI n) (hv : (Int8.ofInt n).toInt32 = Int32.ofInt n) (k : AZ G M b (pc + 2) ls (vI n :: st) h Z) : AZ G M b pc ls st h Z := by
  intro p e s m args below meth c H locs cells slots la C K R o1 o2 L S B c1 c2
  exact lv_bipush C.1 C.2.1 hd hv (k p e s m args below meth c H locs cells slots la C K R o1 (List.forall_mem_cons.mpr ⟨hn, o2⟩) L S B c1 c2)
theorem aw_sipush {n : Int} (hd : decode (mC M) pc = .ok (.sipush n, 3)) (hn : inI n) (hv : (Int16.ofInt n).toInt32 = Int32.ofInt n) (k : AZ G M b (pc + 3) ls (vI n :: st) h Z) : AZ G M b pc ls st h Z := by
  intro p e s m args below meth c H locs cells slots la C K R o1 o2 L S B c1 c2
  exact lv_sipush C.1 C.2.1 hd hv (k p e s m args below meth c H locs cells slots la C K R o1 (List.forall_mem_cons.mpr ⟨hn, o2⟩) L S B c1 c2)
theorem aw_iload_n {k' : Fin 4} {i : Nat} {x : Int} (j : Nat) (hd : decode (mC M) pc = .ok (.iload_n k', 1)) (hi : (k' : Nat) = i) (hl : ls[j]? = some (i, vI x)) (k : AZ G M b (pc + 1) ls (vI x :: st) h Z) : AZ G M b pc ls st h Z := by
  intro p e s m args below meth c H locs cells slots la C K R o1 o2 L S B c1 c2
  exact lv_iload_n C.1 C.2.1 hd hi (lv_at L j (lvs_at hl)) (k p e s m args below meth c H locs cells slots la C K R o1 (List.forall_mem_cons.mpr ⟨o1 _ (List.mem_of_getElem? hl), o2⟩) L S B c1 c2)
theorem aw_iload {i : Nat} {x : Int} (j : Nat) (hd : decode (mC M) pc = .ok (.iload i, 2)) (hl : ls[j]? = some (i, vI x)) (k : AZ G M b (pc + 2) ls (vI x :: st) h Z) : AZ G M b pc ls st h Z := by
  intro p e s m args below meth c H locs cells slots la C K R o1 o2 L S B c1 c2
  exact lv_iload C.1 C.2.1 hd (lv_at L j (lvs_at hl)) (k p e s m args below meth c H locs cells slots la C K R o1 (List.forall_mem_cons.mpr ⟨o1 _ (List.mem_of_getElem? hl), o2⟩) L S B c1 c2)
theorem aw_lload_n {k' : Fin 4} {i : Nat} {x : Int} (j : Nat) (hd : decode (mC M) pc = .ok (.lload_n k', 1)) (hi : (k' : Nat) = i) (hl : ls[j]? = some (i, vL x)) (k : AZ G M b (pc + 1) ls (vL x :: st) h Z) : AZ G M b pc ls st h Z := by
  intro p e s m args below meth c H locs cells slots la C K R o1 o2 L S B c1 c2
  exact lv_lload_n C.1 C.2.1 hd hi (lv_at L j (lvs_at hl)) (k p e s m args below meth c H locs cells slots la C K R o1 (List.forall_mem_cons.mpr ⟨o1 _ (List.mem_of_getElem? hl), o2⟩) L S B c1 c2)
theorem aw_lload {i : Nat} {x : Int} (j : Nat) (hd : decode (mC M) pc = .ok (.lload i, 2)) (hl : ls[j]? = some (i, vL x)) (k : AZ G M b (pc + 2) ls (vL x :: st) h Z) : AZ G M b pc ls st h Z := by
  intro p e s m args below meth c H locs cells slots la C K R o1 o2 L S B c1 c2
  exact lv_lload C.1 C.2.1 hd (lv_at L j (lvs_at hl)) (k p e s m args below meth c H locs cells slots la C K R o1 (List.forall_mem_cons.mpr ⟨o1 _ (List.mem_of_getElem? hl), o2⟩) L S B c1 c2)
theorem aw_aload_n {k' : Fin 4} {i : Nat} {a : Int} (j : Nat) (hd : decode (mC M) pc = .ok (.aload_n k', 1)) (hi : (k' : Nat) = i) (hl : ls[j]? = some (i, vR a)) (k : AZ G M b (pc + 1) ls (vR a :: st) h Z) : AZ G M b pc ls st h Z := by
  intro p e s m args below meth c H locs cells slots la C K R o1 o2 L S B c1 c2
  have W1 := k p e s m args below meth c H locs cells slots la C K R o1 (List.forall_mem_cons.mpr ⟨o1 _ (List.mem_of_getElem? hl), o2⟩) L S B c1 c2
  have hq := lv_at L j (lvs_at hl)
  have e0 : cv G (vR a) = va_rf (rfo G a) := rfl
  rw [List.map_cons, e0] at W1
  rw [e0] at hq
  rcases va_rf_or (rfo G a) with hr | ⟨q, hr⟩
  · rw [hr] at W1 hq
    exact lv_aload_nN C.1 C.2.1 hd hi hq W1
  · rw [hr] at W1 hq
    exact lv_aload_n C.1 C.2.1 hd hi hq W1
theorem aw_aload {i : Nat} {a : Int} (j : Nat) (hd : decode (mC M) pc = .ok (.aload i, 2)) (hl : ls[j]? = some (i, vR a)) (k : AZ G M b (pc + 2) ls (vR a :: st) h Z) : AZ G M b pc ls st h Z := by
  intro p e s m args below meth c H locs cells slots la C K R o1 o2 L S B c1 c2
  have W1 := k p e s m args below meth c H locs cells slots la C K R o1 (List.forall_mem_cons.mpr ⟨o1 _ (List.mem_of_getElem? hl), o2⟩) L S B c1 c2
  have hq := lv_at L j (lvs_at hl)
  have e0 : cv G (vR a) = va_rf (rfo G a) := rfl
  rw [List.map_cons, e0] at W1
  rw [e0] at hq
  rcases va_rf_or (rfo G a) with hr | ⟨q, hr⟩
  · rw [hr] at W1 hq
    exact lv_aloadN C.1 C.2.1 hd hq W1
  · rw [hr] at W1 hq
    exact lv_aload C.1 C.2.1 hd hq W1
theorem aw_istore_n {k' : Fin 4} {i : Nat} {x : Int} (hd : decode (mC M) pc = .ok (.istore_n k', 1)) (hi : (k' : Nat) = i) (hn : i < mL M) (k : AZ G M b (pc + 1) (stl ls i (vI x)) st h Z) : AZ G M b pc ls (vI x :: st) h Z := by
  intro p e s m args below meth c H locs cells slots la C K R o1 o2 L S B c1 c2
  exact lv_istore_n C.1 C.2.1 hd hi L hn (lvs_stl ls i (vI x)) (fun la' L' => k p e s m args below meth c H locs cells slots la' C K R (ok_stl o1 (o2 _ List.mem_cons_self)) (fun v hv => o2 v (List.mem_cons_of_mem _ hv)) L' S B c1 c2)
theorem aw_istore {i : Nat} {x : Int} (hd : decode (mC M) pc = .ok (.istore i, 2)) (hn : i < mL M) (k : AZ G M b (pc + 2) (stl ls i (vI x)) st h Z) : AZ G M b pc ls (vI x :: st) h Z := by
  intro p e s m args below meth c H locs cells slots la C K R o1 o2 L S B c1 c2
  exact lv_istore C.1 C.2.1 hd L hn (lvs_stl ls i (vI x)) (fun la' L' => k p e s m args below meth c H locs cells slots la' C K R (ok_stl o1 (o2 _ List.mem_cons_self)) (fun v hv => o2 v (List.mem_cons_of_mem _ hv)) L' S B c1 c2)
theorem aw_astore_n {k' : Fin 4} {i : Nat} {a : Int} (hd : decode (mC M) pc = .ok (.astore_n k', 1)) (hi : (k' : Nat) = i) (hn : i < mL M) (k : AZ G M b (pc + 1) (stl ls i (vR a)) st h Z) : AZ G M b pc ls (vR a :: st) h Z := by
  intro p e s m args below meth c H locs cells slots la C K R o1 o2 L S B c1 c2
  have kk := fun la' L' => k p e s m args below meth c H locs cells slots la' C K R (ok_stl o1 (o2 _ List.mem_cons_self)) (fun v hv => o2 v (List.mem_cons_of_mem _ hv)) L' S B c1 c2
  have hs := lvs_stl (G := G) ls i (vR a)
  have e0 : cv G (vR a) = va_rf (rfo G a) := rfl
  rw [List.map_cons, e0]
  rw [e0] at hs
  rcases va_rf_or (rfo G a) with hr | ⟨q, hr⟩
  · rw [hr] at hs ⊢
    exact lv_astore_nN C.1 C.2.1 hd hi L hn hs kk
  · rw [hr] at hs ⊢
    exact lv_astore_n C.1 C.2.1 hd hi L hn hs kk
theorem aw_astore {i : Nat} {a : Int} (hd : decode (mC M) pc = .ok (.astore i, 2)) (hn : i < mL M) (k : AZ G M b (pc + 2) (stl ls i (vR a)) st h Z) : AZ G M b pc ls (vR a :: st) h Z := by
  intro p e s m args below meth c H locs cells slots la C K R o1 o2 L S B c1 c2
  have kk := fun la' L' => k p e s m args below meth c H locs cells slots la' C K R (ok_stl o1 (o2 _ List.mem_cons_self)) (fun v hv => o2 v (List.mem_cons_of_mem _ hv)) L' S B c1 c2
  have hs := lvs_stl (G := G) ls i (vR a)
  have e0 : cv G (vR a) = va_rf (rfo G a) := rfl
  rw [List.map_cons, e0]
  rw [e0] at hs
  rcases va_rf_or (rfo G a) with hr | ⟨q, hr⟩
  · rw [hr] at hs ⊢
    exact lv_astoreN C.1 C.2.1 hd L hn hs kk
  · rw [hr] at hs ⊢
    exact lv_astore C.1 C.2.1 hd L hn hs kk
theorem aw_iinc {i : Nat} {n x : Int} (j : Nat) (hd : decode (mC M) pc = .ok (.iinc i n, 3)) (hl : ls[j]? = some (i, vI x)) (hx : inI (x + n)) (hn : i < mL M) (k : AZ G M b (pc + 3) (stl ls i (vI (x + n))) st h Z) : AZ G M b pc ls st h Z := by
  intro p e s m args below meth c H locs cells slots la C K R o1 o2 L S B c1 c2
  exact lv_iinc C.1 C.2.1 hd L (lvs_at hl) (Int32.ofInt_add x n).symm hn (lvs_stl ls i (vI (x + n))) (fun la' L' => k p e s m args below meth c H locs cells slots la' C K R (ok_stl o1 hx) o2 L' S B c1 c2)
theorem aw_iadd {x y : Int} (hd : decode (mC M) pc = .ok (.iadd, 1)) (hx : inI (x + y)) (k : AZ G M b (pc + 1) ls (vI (x + y) :: st) h Z) : AZ G M b pc ls (vI y :: vI x :: st) h Z := by
  intro p e s m args below meth c H locs cells slots la C K R o1 o2 L S B c1 c2
  refine lv_iadd C.1 C.2.1 hd ?_
  rw [← Int32.ofInt_add]
  exact k p e s m args below meth c H locs cells slots la C K R o1 (List.forall_mem_cons.mpr ⟨hx, fun v hv => o2 v (List.mem_cons_of_mem _ (List.mem_cons_of_mem _ hv))⟩) L S B c1 c2
theorem aw_isub {x y : Int} (hd : decode (mC M) pc = .ok (.isub, 1)) (hx : inI (x - y)) (k : AZ G M b (pc + 1) ls (vI (x - y) :: st) h Z) : AZ G M b pc ls (vI y :: vI x :: st) h Z := by
  intro p e s m args below meth c H locs cells slots la C K R o1 o2 L S B c1 c2
  refine lv_isub C.1 C.2.1 hd ?_
  rw [← Int32.ofInt_sub]
  exact k p e s m args below meth c H locs cells slots la C K R o1 (List.forall_mem_cons.mpr ⟨hx, fun v hv => o2 v (List.mem_cons_of_mem _ (List.mem_cons_of_mem _ hv))⟩) L S B c1 c2
theorem aw_imul {x y : Int} (hd : decode (mC M) pc = .ok (.imul, 1)) (hx : inI (x * y)) (k : AZ G M b (pc + 1) ls (vI (x * y) :: st) h Z) : AZ G M b pc ls (vI y :: vI x :: st) h Z := by
  intro p e s m args below meth c H locs cells slots la C K R o1 o2 L S B c1 c2
  refine lv_imul C.1 C.2.1 hd ?_
  rw [← Int32.ofInt_mul]
  exact k p e s m args below meth c H locs cells slots la C K R o1 (List.forall_mem_cons.mpr ⟨hx, fun v hv => o2 v (List.mem_cons_of_mem _ (List.mem_cons_of_mem _ hv))⟩) L S B c1 c2
theorem aw_goto {off : Int} {tgt : Nat} (hd : decode (mC M) pc = .ok (.goto off, 3)) (ht : (pc : Int) + off = (tgt : Int)) (k : AZ G M b tgt ls st h Z) : AZ G M b pc ls st h Z := by
  intro p e s m args below meth c H locs cells slots la C K R o1 o2 L S B c1 c2
  exact lv_goto C.1 C.2.1 hd ht (k p e s m args below meth c H locs cells slots la C K R o1 o2 L S B c1 c2)
theorem aw_sub {ls' : List (Nat × VV)} (ks : List Nat) (hk : ks.filterMap (fun i => ls[i]?) = ls') (k : AZ G M b pc ls' st h Z) : AZ G M b pc ls st h Z := by
  intro p e s m args below meth c H locs cells slots la C K R o1 o2 L S B c1 c2
  have hm : ∀ q ∈ ls', q ∈ ls := by
    intro q hq
    rw [← hk] at hq
    obtain ⟨i, -, hi⟩ := List.mem_filterMap.mp hq
    exact List.mem_of_getElem? hi
  refine k p e s m args below meth c H locs cells slots la C K R (fun q hq => o1 q (hm q hq)) o2 ⟨L.1, L.2.1, fun q hq => ?_⟩ S B c1 c2
  obtain ⟨r, hr, rfl⟩ := List.mem_map.mp hq
  exact L.2.2 _ (List.mem_map.mpr ⟨r, hm r hr, rfl⟩)
/-- what is known of a frame's values may be used -/
theorem aw_use (k : (∀ q ∈ ls, okV q.2) → (∀ v ∈ st, okV v) → okH h → AZ G M b pc ls st h Z) : AZ G M b pc ls st h Z := by
  intro p e s m args below meth c H locs cells slots la C K R o1 o2 L S B c1 c2
  exact k o1 o2 R.2.2 p e s m args below meth c H locs cells slots la C K R o1 o2 L S B c1 c2
end AR
