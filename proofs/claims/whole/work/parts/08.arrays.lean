/-! rows of the abstract machine, fourth part: arrays, new cells, answers -/
theorem a_size {G : GG} {h : Hp} {a i : Int} (hi : inI i) (h0 : 0 ≤ i) (h1 : i < h a (-2)) : vp_in (Int32.ofInt i) (h a (-2)).toNat := i_in hi h0 (by omega)
theorem a_upd {r : Int → Int} {i x : Int} (h0 : 0 ≤ i) : (fun j : Nat => Int32.ofInt ((fun q => if q = i then x else r q) (j : Int))) = upd (fun j : Nat => Int32.ofInt (r j)) i.toNat (Int32.ofInt x) := by
  funext j
  unfold upd
  by_cases hj : j = i.toNat
  · rw [if_pos hj]
    dsimp only
    rw [if_pos (by omega)]
  · rw [if_neg hj]
    dsimp only
    rw [if_neg (by omega)]
theorem a_updq {G : GG} {r : Int → Int} {i x : Int} (h0 : 0 ≤ i) : (fun j : Nat => rfo G ((fun q => if q = i then x else r q) (j : Int))) = va_up (fun j : Nat => rfo G (r j)) i.toNat (rfo G x) := by
  funext j
  unfold va_up
  by_cases hj : j = i.toNat
  · rw [if_pos hj]
    dsimp only
    rw [if_pos (by omega)]
  · rw [if_neg hj]
    dsimp only
    rw [if_neg (by omega)]
section AR4
variable {G : GG} {M : MT} {b : Nat × Nat} {pc : Nat} {ls : List (Nat × VV)} {st : List VV} {h : Hp} {Z : LZ}
theorem aw_iald {a i x : Int} (hd : decode (mC M) pc = .ok (.iaload, 1)) (hs : h a (-1) = 20) (h0 : 0 ≤ i) (h1 : i < h a (-2)) (hx : h a i = x) (kk : AZ G M b (pc + 1) ls (vI x :: st) h Z) : AZ G M b pc ls (vI i :: vR a :: st) h Z := by
  intro p e s m args below meth c H locs cells slots la C K R o1 o2 L S B c1 c2
  obtain ⟨a1, a2⟩ := R.2.2.2.1 a (by omega)
  have he := cls_at (G := G) a1 a2
  rw [enc_arr (by omega) (by omega), hs] at he
  have hi : inI i := i_head o2
  subst hx
  rw [List.map_cons, List.map_cons, cv_ref (show a ≠ 0 by omega)]
  refine va_iald C.1 C.2.1 K.1 R.1 _ 0 he rfl (a_size (G := G) hi h0 h1) hd ?_
  rw [i_clamp hi, show ((i.toNat : Nat) : Int) = i by omega]
  exact kk p e s m args below meth c H locs cells slots la C K R o1 (i_cons (R.2.2.2.2.1 a i a1 a2 h0) (i_tail2 o2)) L S B c1 c2
theorem aw_zald {a i x : Int} (hd : decode (mC M) pc = .ok (.baload, 1)) (hs : h a (-1) = 21) (h0 : 0 ≤ i) (h1 : i < h a (-2)) (hx : h a i = x) (kk : AZ G M b (pc + 1) ls (vI x :: st) h Z) : AZ G M b pc ls (vI i :: vR a :: st) h Z := by
  intro p e s m args below meth c H locs cells slots la C K R o1 o2 L S B c1 c2
  obtain ⟨a1, a2⟩ := R.2.2.2.1 a (by omega)
  have he := cls_at (G := G) a1 a2
  rw [enc_arr (by omega) (by omega), hs] at he
  have hi : inI i := i_head o2
  subst hx
  rw [List.map_cons, List.map_cons, cv_ref (show a ≠ 0 by omega)]
  refine va_zald C.1 C.2.1 K.1 R.1 _ 1 he rfl (a_size (G := G) hi h0 h1) hd ?_
  rw [i_clamp hi, show ((i.toNat : Nat) : Int) = i by omega]
  exact kk p e s m args below meth c H locs cells slots la C K R o1 (i_cons (R.2.2.2.2.1 a i a1 a2 h0) (i_tail2 o2)) L S B c1 c2
theorem aw_cald {a i x : Int} (hd : decode (mC M) pc = .ok (.caload, 1)) (hs : h a (-1) = 22) (h0 : 0 ≤ i) (h1 : i < h a (-2)) (hx : h a i = x) (kk : AZ G M b (pc + 1) ls (vI x :: st) h Z) : AZ G M b pc ls (vI i :: vR a :: st) h Z := by
  intro p e s m args below meth c H locs cells slots la C K R o1 o2 L S B c1 c2
  obtain ⟨a1, a2⟩ := R.2.2.2.1 a (by omega)
  have he := cls_at (G := G) a1 a2
  rw [enc_arr (by omega) (by omega), hs] at he
  have hi : inI i := i_head o2
  subst hx
  rw [List.map_cons, List.map_cons, cv_ref (show a ≠ 0 by omega)]
  refine va_cald C.1 C.2.1 K.1 R.1 _ 2 he rfl (a_size (G := G) hi h0 h1) hd ?_
  rw [i_clamp hi, show ((i.toNat : Nat) : Int) = i by omega]
  exact kk p e s m args below meth c H locs cells slots la C K R o1 (i_cons (R.2.2.2.2.1 a i a1 a2 h0) (i_tail2 o2)) L S B c1 c2
/-- an array of objects of class ci, of which the tables speak at t0 -/
def aq (t0 ci : Nat) : Prop := ∃ q : vw_C, vwCl[ci]? = some q ∧ ∀ G : GG, (tysOf G)[t0]? = some (gY G ((ci : Int) + 30), .object q.1)
theorem aw_aald {a i x : Int} (t0 ci : Nat) (hq : aq t0 ci) (hd : decode (mC M) pc = .ok (.aaload, 1)) (hs : h a (-1) = (ci : Int) + 30) (h0 : 0 ≤ i) (h1 : i < h a (-2)) (hx : h a i = x) (kk : AZ G M b (pc + 1) ls (vR x :: st) h Z) : AZ G M b pc ls (vI i :: vR a :: st) h Z := by
  intro p e s m args below meth c H locs cells slots la C K R o1 o2 L S B c1 c2
  obtain ⟨q, hq1, hq2⟩ := hq
  obtain ⟨a1, a2⟩ := R.2.2.2.1 a (by omega)
  have he := cls_at (G := G) a1 a2
  rw [enc_arq (by omega), hs] at he
  have hi : inI i := i_head o2
  subst hx
  rw [List.map_cons, List.map_cons, cv_ref (show a ≠ 0 by omega)]
  refine va_aldq C.1 C.2.1 K.1 R.1 _ t0 he (hq2 G) (a_size (G := G) hi h0 h1) hd ?_
  rw [i_clamp hi, show ((i.toNat : Nat) : Int) = i by omega]
  exact kk p e s m args below meth c H locs cells slots la C K R o1 (i_cons (R.2.2.2.2.1 a i a1 a2 h0) (i_tail2 o2)) L S B c1 c2
theorem aw_iast {a i x : Int} (hd : decode (mC M) pc = .ok (.iastore, 1)) (hs : h a (-1) = 20) (h0 : 0 ≤ i) (h1 : i < h a (-2)) (kk : AZ G M b (pc + 1) ls st (wr h a i x) Z) : AZ G M b pc ls (vI x :: vI i :: vR a :: st) h Z := by
  intro p e s m args below meth c H locs cells slots la C K R o1 o2 L S B c1 c2
  obtain ⟨a1, a2⟩ := R.2.2.2.1 a (by omega)
  have he := cls_at (G := G) a1 a2
  rw [enc_arr (by omega) (by omega), hs] at he
  have hx : inI x := i_head o2
  have hi : inI i := i_head (i_tail o2)
  rw [List.map_cons, List.map_cons, List.map_cons, cv_ref (show a ≠ 0 by omega)]
  have hin := a_size (G := G) hi h0 h1
  refine W.iast C.1 C.2.1 (R.1 _ _ he) ((K.1.2 0 _ rfl).1 _ (fun j => .int (Int32.ofInt (h a j)))) (fun q => by cases q) (by show ¬ (_ ∨ (arrV _ _ _).slots.size ≤ _); rw [arrV_size]; exact hin) rfl rfl hd fun H1 e1 z oq => ?_
  refine kk p e s m args below meth c H1 _ cells slots la C K (R.row a1 a2 (wr_top a1) (fun b _ hb => wr_off hb) oq z ?_ (okH_wr R.2.2 a1 h0 hx)) o1 (i_tail (i_tail2 o2)) L (S.put z oq (gA_adr a1)) B c1 c2
  have hs' : wr h a i x a (-1) = 20 := by rw [wr_row]; simp only; rw [if_neg (by omega)]; exact hs
  rw [enc_arr (by omega) (by omega), hs']
  show H1[adr G a]? = some (vp_cell _ _)
  rw [e1, wr_row, a_upd h0, vp_cell_i, vp_cell_i, arrV_store, i_clamp hi]
  simp only [show ¬ ((-2 : Int) = i) by omega, if_false]
  congr 2
  funext j
  unfold updV upd
  split <;> rfl
theorem aw_zast {a i x : Int} (hd : decode (mC M) pc = .ok (.bastore, 1)) (hs : h a (-1) = 21) (h0 : 0 ≤ i) (h1 : i < h a (-2)) (hb : x = 0 ∨ x = 1) (kk : AZ G M b (pc + 1) ls st (wr h a i x) Z) : AZ G M b pc ls (vI x :: vI i :: vR a :: st) h Z := by
  intro p e s m args below meth c H locs cells slots la C K R o1 o2 L S B c1 c2
  obtain ⟨a1, a2⟩ := R.2.2.2.1 a (by omega)
  have he := cls_at (G := G) a1 a2
  rw [enc_arr (by omega) (by omega), hs] at he
  have hx : inI x := i_head o2
  have hi : inI i := i_head (i_tail o2)
  rw [List.map_cons, List.map_cons, List.map_cons, cv_ref (show a ≠ 0 by omega)]
  have hin := a_size (G := G) hi h0 h1
  refine W.zast C.1 C.2.1 (R.1 _ _ he) ((K.1.2 1 _ rfl).1 _ (fun j => .int (Int32.ofInt (h a j)))) (fun q => by cases q) (by show ¬ (_ ∨ (arrV _ _ _).slots.size ≤ _); rw [arrV_size]; exact hin) rfl rfl hd fun H1 e1 z oq => ?_
  refine kk p e s m args below meth c H1 _ cells slots la C K (R.row a1 a2 (wr_top a1) (fun b _ hb => wr_off hb) oq z ?_ (okH_wr R.2.2 a1 h0 hx)) o1 (i_tail (i_tail2 o2)) L (S.put z oq (gA_adr a1)) B c1 c2
  have hs' : wr h a i x a (-1) = 21 := by rw [wr_row]; simp only; rw [if_neg (by omega)]; exact hs
  rw [enc_arr (by omega) (by omega), hs']
  have hnar : narrow .boolean (.int (Int32.ofInt x)) = .int (Int32.ofInt x) := by rcases hb with rfl | rfl <;> decide
  rw [hnar] at e1
  show H1[adr G a]? = some (vp_cell _ _)
  rw [e1, wr_row, a_upd h0, vp_cell_i, vp_cell_i, arrV_store, i_clamp hi]
  simp only [show ¬ ((-2 : Int) = i) by omega, if_false]
  congr 2
  funext j
  unfold updV upd
  split <;> rfl
theorem aw_cast {a i x : Int} (hd : decode (mC M) pc = .ok (.castore, 1)) (hs : h a (-1) = 22) (h0 : 0 ≤ i) (h1 : i < h a (-2)) (hb : 0 ≤ x ∧ x < 65536) (kk : AZ G M b (pc + 1) ls st (wr h a i x) Z) : AZ G M b pc ls (vI x :: vI i :: vR a :: st) h Z := by
  intro p e s m args below meth c H locs cells slots la C K R o1 o2 L S B c1 c2
  obtain ⟨a1, a2⟩ := R.2.2.2.1 a (by omega)
  have he := cls_at (G := G) a1 a2
  rw [enc_arr (by omega) (by omega), hs] at he
  have hx : inI x := i_head o2
  have hi : inI i := i_head (i_tail o2)
  rw [List.map_cons, List.map_cons, List.map_cons, cv_ref (show a ≠ 0 by omega)]
  have hin := a_size (G := G) hi h0 h1
  refine W.cast C.1 C.2.1 (R.1 _ _ he) ((K.1.2 2 _ rfl).1 _ (fun j => .int (Int32.ofInt (h a j)))) (fun q => by cases q) (by show ¬ (_ ∨ (arrV _ _ _).slots.size ≤ _); rw [arrV_size]; exact hin) rfl rfl hd fun H1 e1 z oq => ?_
  refine kk p e s m args below meth c H1 _ cells slots la C K (R.row a1 a2 (wr_top a1) (fun b _ hb => wr_off hb) oq z ?_ (okH_wr R.2.2 a1 h0 hx)) o1 (i_tail (i_tail2 o2)) L (S.put z oq (gA_adr a1)) B c1 c2
  have hs' : wr h a i x a (-1) = 22 := by rw [wr_row]; simp only; rw [if_neg (by omega)]; exact hs
  rw [enc_arr (by omega) (by omega), hs']
  have hnar : narrow .char (.int (Int32.ofInt x)) = .int (Int32.ofInt x) := by
    rw [i_nI hb.1]
    exact (pk_charN (by omega)).1
  rw [hnar] at e1
  show H1[adr G a]? = some (vp_cell _ _)
  rw [e1, wr_row, a_upd h0, vp_cell_i, vp_cell_i, arrV_store, i_clamp hi]
  simp only [show ¬ ((-2 : Int) = i) by omega, if_false]
  congr 2
  funext j
  unfold updV upd
  split <;> rfl
theorem aw_aast {a i x : Int} (t0 ci : Nat) (hq : aq t0 ci) (hd : decode (mC M) pc = .ok (.aastore, 1)) (hs : h a (-1) = (ci : Int) + 30) (h0 : 0 ≤ i) (h1 : i < h a (-2)) (hxs : h x (-1) = (ci : Int) + 1) (kk : AZ G M b (pc + 1) ls st (wr h a i x) Z) : AZ G M b pc ls (vR x :: vI i :: vR a :: st) h Z := by
  intro p e s m args below meth c H locs cells slots la C K R o1 o2 L S B c1 c2
  obtain ⟨q, hq1, hq2⟩ := hq
  obtain ⟨w0, w10⟩ := cl_all hq1
  obtain ⟨a1, a2⟩ := R.2.2.2.1 a (by omega)
  obtain ⟨x1, x2⟩ := R.2.2.2.1 x (by omega)
  have he := cls_at (G := G) a1 a2
  have hxe := cls_at (G := G) x1 x2
  rw [enc_arq (by omega), hs] at he
  rw [enc_obj hxs w10] at hxe
  have hx : inI x := i_head o2
  have hi : inI i := i_head (i_tail o2)
  rw [List.map_cons, List.map_cons, List.map_cons, cv_ref (show a ≠ 0 by omega), cv_ref (show x ≠ 0 by omega)]
  have hin := a_size (G := G) hi h0 h1
  have hlt : (Int32.ofInt i).toNatClampNeg < (h a (-2)).toNat := Nat.not_le.mp fun q => hin (Or.inr q)
  have hn0 : ¬ Int32.ofInt i < 0 := fun q => hin (Or.inl q)
  obtain ⟨r', hr', cellV, g1, g2, g3, -⟩ := R.1 _ _ hxe
  have hcls := (K.1.1 ci q hq1).2
  obtain ⟨kA, comp, k1, k2, k3, -⟩ := (K.1.2 t0 _ (hq2 G)).2
  have hcomp : comp = G.2.1.1 ci := Option.some.inj (k3.symm.trans hcls.1)
  subst hcomp
  obtain ⟨kC, hkC, -⟩ := hcls.2
  refine W.aast C.1 C.2.1 (R.1 _ _ he) (fun q h => by cases h) (fun h => by cases h) k1 k2 rfl hkC ⟨hn0, by show _ < (arrV _ _ _).slots.size; rw [arrV_size]; exact hlt⟩ g1 (fun q h => by rw [g3] at h; cases h) (by rw [g2]; exact hkC) (by rw [g2]; exact va_assign hcls) rfl rfl hd fun H1 e1 z oq => ?_
  refine kk p e s m args below meth c H1 _ cells slots la C K (R.row a1 a2 (wr_top a1) (fun b _ hb => wr_off hb) oq z ?_ (okH_wr R.2.2 a1 h0 hx)) o1 (i_tail (i_tail2 o2)) L (S.put z oq (gA_adr a1)) B c1 c2
  have hs' : wr h a i x a (-1) = (ci : Int) + 30 := by rw [wr_row]; simp only; rw [if_neg (by omega)]; exact hs
  rw [enc_arq (by omega), hs']
  show H1[adr G a]? = some (vp_cell _ _)
  rw [e1, wr_row, a_updq h0, vp_cell_q, vp_cell_q, arrV_store, i_clamp hi]
  simp only [show ¬ ((-2 : Int) = i) by omega, if_false]
  congr 2
  funext j
  unfold updV va_up
  split
  · simp [rfo, show ¬ x = 0 by omega, va_rf]
  · rfl
end AR4
