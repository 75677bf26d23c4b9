/-! rows of the abstract machine, second part: branches, longs, bits, switches -/
theorem i_tail {st : List VV} {v : VV} (h : ∀ w ∈ v :: st, okV w) : ∀ w ∈ st, okV w := fun w hw => h w (List.mem_cons_of_mem _ hw)
theorem i_tail2 {st : List VV} {v u : VV} (h : ∀ w ∈ v :: u :: st, okV w) : ∀ w ∈ st, okV w := i_tail (i_tail h)
theorem i_cons {st : List VV} {v : VV} (hv : okV v) (h : ∀ w ∈ st, okV w) : ∀ w ∈ v :: st, okV w := List.forall_mem_cons.mpr ⟨hv, h⟩
theorem i_head {st : List VV} {v : VV} (h : ∀ w ∈ v :: st, okV w) : okV v := h v List.mem_cons_self
theorem i_of32 (x : Int32) : Int32.ofInt x.toInt = x := by simp
theorem i_inI (x : Int32) : inI x.toInt := by
  have h1 := Int32.le_toInt x
  have h2 := Int32.toInt_lt x
  exact ⟨by omega, by omega⟩
def iAnd (x y : Int) : Int := (Int32.ofInt x &&& Int32.ofInt y).toInt
def iXor (x y : Int) : Int := (Int32.ofInt x ^^^ Int32.ofInt y).toInt
theorem i_nI {x : Int} (h : 0 ≤ x) : Int32.ofInt x = nI x.toNat := by
  show Int32.ofInt x = Int32.ofInt (x.toNat : Int)
  rw [Int.toNat_of_nonneg h]
theorem i_div {x y : Int} (hx : inI x) (hy : inI y) (h0 : 0 ≤ x) (h1 : 0 < y) : Int32.ofInt x / Int32.ofInt y = Int32.ofInt (x / y) := by
  obtain ⟨a1, a2⟩ := hx
  obtain ⟨b1, b2⟩ := hy
  rw [i_nI h0, i_nI (Int.le_of_lt h1), pk_div (by omega) (by omega) (by omega), i_nI (Int.ediv_nonneg h0 (Int.le_of_lt h1))]
  congr 1
  have : (((x.toNat / y.toNat : Nat)) : Int) = ((x / y).toNat : Int) := by
    rw [Int.toNat_of_nonneg (Int.ediv_nonneg h0 (Int.le_of_lt h1)), Int.natCast_ediv, Int.toNat_of_nonneg h0, Int.toNat_of_nonneg (Int.le_of_lt h1)]
  omega
theorem i_rem {x y : Int} (hx : inI x) (hy : inI y) (h0 : 0 ≤ x) (h1 : 0 < y) : Int32.ofInt x - Int32.ofInt x / Int32.ofInt y * Int32.ofInt y = Int32.ofInt (x % y) := by
  rw [i_div hx hy h0 h1, ← Int32.ofInt_mul, ← Int32.ofInt_sub]
  congr 1
  rw [Int.emod_def, Int.mul_comm y]
section AR2
variable {G : GG} {M : MT} {b : Nat × Nat} {pc : Nat} {ls : List (Nat × VV)} {st : List VV} {h : Hp} {Z : LZ}
theorem aw_if_eq {x off : Int} {tgt : Nat} (hd : decode (mC M) pc = .ok (.ifCond .eq off, 3)) (ht : (pc : Int) + off = (tgt : Int)) (kt : x = 0 → AZ G M b tgt ls st h Z) (kf : ¬ (x = 0) → AZ G M b (pc + 3) ls st h Z) : AZ G M b pc ls (vI x :: st) h Z := by
  intro p e s m args below meth c H locs cells slots la C K R o1 o2 L S B c1 c2
  have hx : inI x := i_head o2
  have hp := i_eq hx inI_0
  refine lv_if_eq C.1 C.2.1 hd ht (fun q => kt (hp.mp q) p e s m args below meth c H locs cells slots la C K R o1 (i_tail o2) L S B c1 c2) (fun q => kf (fun z => q (hp.mpr z)) p e s m args below meth c H locs cells slots la C K R o1 (i_tail o2) L S B c1 c2)
theorem aw_icmp_eq {x y off : Int} {tgt : Nat} (hd : decode (mC M) pc = .ok (.if_icmp .eq off, 3)) (ht : (pc : Int) + off = (tgt : Int)) (kt : x = y → AZ G M b tgt ls st h Z) (kf : ¬ (x = y) → AZ G M b (pc + 3) ls st h Z) : AZ G M b pc ls (vI y :: vI x :: st) h Z := by
  intro p e s m args below meth c H locs cells slots la C K R o1 o2 L S B c1 c2
  have hx : inI x := i_head (i_tail o2)
  have hy : inI y := i_head o2
  have hp := i_eq hx hy
  refine lv_icmp_eq C.1 C.2.1 hd ht (fun q => kt (hp.mp q) p e s m args below meth c H locs cells slots la C K R o1 (i_tail2 o2) L S B c1 c2) (fun q => kf (fun z => q (hp.mpr z)) p e s m args below meth c H locs cells slots la C K R o1 (i_tail2 o2) L S B c1 c2)
theorem aw_if_ge {x off : Int} {tgt : Nat} (hd : decode (mC M) pc = .ok (.ifCond .ge off, 3)) (ht : (pc : Int) + off = (tgt : Int)) (kt : 0 ≤ x → AZ G M b tgt ls st h Z) (kf : ¬ (0 ≤ x) → AZ G M b (pc + 3) ls st h Z) : AZ G M b pc ls (vI x :: st) h Z := by
  intro p e s m args below meth c H locs cells slots la C K R o1 o2 L S B c1 c2
  have hx : inI x := i_head o2
  have hp := i_le inI_0 hx
  refine lv_if_ge C.1 C.2.1 hd ht (fun q => kt (hp.mp q) p e s m args below meth c H locs cells slots la C K R o1 (i_tail o2) L S B c1 c2) (fun q => kf (fun z => q (hp.mpr z)) p e s m args below meth c H locs cells slots la C K R o1 (i_tail o2) L S B c1 c2)
theorem aw_icmp_ge {x y off : Int} {tgt : Nat} (hd : decode (mC M) pc = .ok (.if_icmp .ge off, 3)) (ht : (pc : Int) + off = (tgt : Int)) (kt : y ≤ x → AZ G M b tgt ls st h Z) (kf : ¬ (y ≤ x) → AZ G M b (pc + 3) ls st h Z) : AZ G M b pc ls (vI y :: vI x :: st) h Z := by
  intro p e s m args below meth c H locs cells slots la C K R o1 o2 L S B c1 c2
  have hx : inI x := i_head (i_tail o2)
  have hy : inI y := i_head o2
  have hp := i_le hy hx
  refine lv_icmp_ge C.1 C.2.1 hd ht (fun q => kt (hp.mp q) p e s m args below meth c H locs cells slots la C K R o1 (i_tail2 o2) L S B c1 c2) (fun q => kf (fun z => q (hp.mpr z)) p e s m args below meth c H locs cells slots la C K R o1 (i_tail2 o2) L S B c1 c2)
theorem aw_if_gt {x off : Int} {tgt : Nat} (hd : decode (mC M) pc = .ok (.ifCond .gt off, 3)) (ht : (pc : Int) + off = (tgt : Int)) (kt : 0 < x → AZ G M b tgt ls st h Z) (kf : ¬ (0 < x) → AZ G M b (pc + 3) ls st h Z) : AZ G M b pc ls (vI x :: st) h Z := by
  intro p e s m args below meth c H locs cells slots la C K R o1 o2 L S B c1 c2
  have hx : inI x := i_head o2
  have hp := i_lt inI_0 hx
  refine lv_if_gt C.1 C.2.1 hd ht (fun q => kt (hp.mp q) p e s m args below meth c H locs cells slots la C K R o1 (i_tail o2) L S B c1 c2) (fun q => kf (fun z => q (hp.mpr z)) p e s m args below meth c H locs cells slots la C K R o1 (i_tail o2) L S B c1 c2)
theorem aw_icmp_gt {x y off : Int} {tgt : Nat} (hd : decode (mC M) pc = .ok (.if_icmp .gt off, 3)) (ht : (pc : Int) + off = (tgt : Int)) (kt : y < x → AZ G M b tgt ls st h Z) (kf : ¬ (y < x) → AZ G M b (pc + 3) ls st h Z) : AZ G M b pc ls (vI y :: vI x :: st) h Z := by
  intro p e s m args below meth c H locs cells slots la C K R o1 o2 L S B c1 c2
  have hx : inI x := i_head (i_tail o2)
  have hy : inI y := i_head o2
  have hp := i_lt hy hx
  refine lv_icmp_gt C.1 C.2.1 hd ht (fun q => kt (hp.mp q) p e s m args below meth c H locs cells slots la C K R o1 (i_tail2 o2) L S B c1 c2) (fun q => kf (fun z => q (hp.mpr z)) p e s m args below meth c H locs cells slots la C K R o1 (i_tail2 o2) L S B c1 c2)
theorem aw_if_le {x off : Int} {tgt : Nat} (hd : decode (mC M) pc = .ok (.ifCond .le off, 3)) (ht : (pc : Int) + off = (tgt : Int)) (kt : x ≤ 0 → AZ G M b tgt ls st h Z) (kf : ¬ (x ≤ 0) → AZ G M b (pc + 3) ls st h Z) : AZ G M b pc ls (vI x :: st) h Z := by
  intro p e s m args below meth c H locs cells slots la C K R o1 o2 L S B c1 c2
  have hx : inI x := i_head o2
  have hp := i_le hx inI_0
  refine lv_if_le C.1 C.2.1 hd ht (fun q => kt (hp.mp q) p e s m args below meth c H locs cells slots la C K R o1 (i_tail o2) L S B c1 c2) (fun q => kf (fun z => q (hp.mpr z)) p e s m args below meth c H locs cells slots la C K R o1 (i_tail o2) L S B c1 c2)
theorem aw_icmp_le {x y off : Int} {tgt : Nat} (hd : decode (mC M) pc = .ok (.if_icmp .le off, 3)) (ht : (pc : Int) + off = (tgt : Int)) (kt : x ≤ y → AZ G M b tgt ls st h Z) (kf : ¬ (x ≤ y) → AZ G M b (pc + 3) ls st h Z) : AZ G M b pc ls (vI y :: vI x :: st) h Z := by
  intro p e s m args below meth c H locs cells slots la C K R o1 o2 L S B c1 c2
  have hx : inI x := i_head (i_tail o2)
  have hy : inI y := i_head o2
  have hp := i_le hx hy
  refine lv_icmp_le C.1 C.2.1 hd ht (fun q => kt (hp.mp q) p e s m args below meth c H locs cells slots la C K R o1 (i_tail2 o2) L S B c1 c2) (fun q => kf (fun z => q (hp.mpr z)) p e s m args below meth c H locs cells slots la C K R o1 (i_tail2 o2) L S B c1 c2)
theorem aw_if_lt {x off : Int} {tgt : Nat} (hd : decode (mC M) pc = .ok (.ifCond .lt off, 3)) (ht : (pc : Int) + off = (tgt : Int)) (kt : x < 0 → AZ G M b tgt ls st h Z) (kf : ¬ (x < 0) → AZ G M b (pc + 3) ls st h Z) : AZ G M b pc ls (vI x :: st) h Z := by
  intro p e s m args below meth c H locs cells slots la C K R o1 o2 L S B c1 c2
  have hx : inI x := i_head o2
  have hp := i_lt hx inI_0
  refine lv_if_lt C.1 C.2.1 hd ht (fun q => kt (hp.mp q) p e s m args below meth c H locs cells slots la C K R o1 (i_tail o2) L S B c1 c2) (fun q => kf (fun z => q (hp.mpr z)) p e s m args below meth c H locs cells slots la C K R o1 (i_tail o2) L S B c1 c2)
theorem aw_icmp_lt {x y off : Int} {tgt : Nat} (hd : decode (mC M) pc = .ok (.if_icmp .lt off, 3)) (ht : (pc : Int) + off = (tgt : Int)) (kt : x < y → AZ G M b tgt ls st h Z) (kf : ¬ (x < y) → AZ G M b (pc + 3) ls st h Z) : AZ G M b pc ls (vI y :: vI x :: st) h Z := by
  intro p e s m args below meth c H locs cells slots la C K R o1 o2 L S B c1 c2
  have hx : inI x := i_head (i_tail o2)
  have hy : inI y := i_head o2
  have hp := i_lt hx hy
  refine lv_icmp_lt C.1 C.2.1 hd ht (fun q => kt (hp.mp q) p e s m args below meth c H locs cells slots la C K R o1 (i_tail2 o2) L S B c1 c2) (fun q => kf (fun z => q (hp.mpr z)) p e s m args below meth c H locs cells slots la C K R o1 (i_tail2 o2) L S B c1 c2)
theorem aw_if_ne {x off : Int} {tgt : Nat} (hd : decode (mC M) pc = .ok (.ifCond .ne off, 3)) (ht : (pc : Int) + off = (tgt : Int)) (kt : ¬ x = 0 → AZ G M b tgt ls st h Z) (kf : x = 0 → AZ G M b (pc + 3) ls st h Z) : AZ G M b pc ls (vI x :: st) h Z := by
  intro p e s m args below meth c H locs cells slots la C K R o1 o2 L S B c1 c2
  have hx : inI x := i_head o2
  have hp := i_eq hx inI_0
  refine lv_if_ne C.1 C.2.1 hd ht (fun q => kt (fun z => q (hp.mpr z)) p e s m args below meth c H locs cells slots la C K R o1 (i_tail o2) L S B c1 c2) (fun q => kf (hp.mp q) p e s m args below meth c H locs cells slots la C K R o1 (i_tail o2) L S B c1 c2)
theorem aw_icmp_ne {x y off : Int} {tgt : Nat} (hd : decode (mC M) pc = .ok (.if_icmp .ne off, 3)) (ht : (pc : Int) + off = (tgt : Int)) (kt : ¬ x = y → AZ G M b tgt ls st h Z) (kf : x = y → AZ G M b (pc + 3) ls st h Z) : AZ G M b pc ls (vI y :: vI x :: st) h Z := by
  intro p e s m args below meth c H locs cells slots la C K R o1 o2 L S B c1 c2
  have hx : inI x := i_head (i_tail o2)
  have hy : inI y := i_head o2
  have hp := i_eq hx hy
  refine lv_icmp_ne C.1 C.2.1 hd ht (fun q => kt (fun z => q (hp.mpr z)) p e s m args below meth c H locs cells slots la C K R o1 (i_tail2 o2) L S B c1 c2) (fun q => kf (hp.mp q) p e s m args below meth c H locs cells slots la C K R o1 (i_tail2 o2) L S B c1 c2)
theorem aw_idiv {x y : Int} (hd : decode (mC M) pc = .ok (.idiv, 1)) (h0 : 0 ≤ x) (h1 : 0 < y) (k : AZ G M b (pc + 1) ls (vI (x / y) :: st) h Z) : AZ G M b pc ls (vI y :: vI x :: st) h Z := by
  intro p e s m args below meth c H locs cells slots la C K R o1 o2 L S B c1 c2
  have hx : inI x := i_head (i_tail o2)
  have hy : inI y := i_head o2
  have hr : inI (x / y) := by
    have q1 := Int.ediv_nonneg h0 (Int.le_of_lt h1)
    have q2 := Int.ediv_le_self y h0
    obtain ⟨z1, z2⟩ := hx
    exact ⟨by omega, by omega⟩
  refine lv_idiv C.1 C.2.1 hd (fun q => by
    have := (i_eq hy inI_0).mp q
    omega) ?_
  rw [i_div hx hy h0 h1]
  exact k p e s m args below meth c H locs cells slots la C K R o1 (i_cons hr (i_tail2 o2)) L S B c1 c2
theorem aw_irem {x y : Int} (hd : decode (mC M) pc = .ok (.irem, 1)) (h0 : 0 ≤ x) (h1 : 0 < y) (k : AZ G M b (pc + 1) ls (vI (x % y) :: st) h Z) : AZ G M b pc ls (vI y :: vI x :: st) h Z := by
  intro p e s m args below meth c H locs cells slots la C K R o1 o2 L S B c1 c2
  have hx : inI x := i_head (i_tail o2)
  have hy : inI y := i_head o2
  have hr : inI (x % y) := by
    have q1 := Int.emod_nonneg x (show y ≠ 0 by omega)
    have q2 := Int.emod_lt_of_pos x h1
    obtain ⟨z1, z2⟩ := hy
    exact ⟨by omega, by omega⟩
  refine lv_irem C.1 C.2.1 hd (fun q => by
    have := (i_eq hy inI_0).mp q
    omega) ?_
  rw [i_rem hx hy h0 h1]
  exact k p e s m args below meth c H locs cells slots la C K R o1 (i_cons hr (i_tail2 o2)) L S B c1 c2
theorem aw_iand {x y : Int} (hd : decode (mC M) pc = .ok (.iand, 1)) (k : AZ G M b (pc + 1) ls (vI (iAnd x y) :: st) h Z) : AZ G M b pc ls (vI y :: vI x :: st) h Z := by
  intro p e s m args below meth c H locs cells slots la C K R o1 o2 L S B c1 c2
  refine lv_iand C.1 C.2.1 hd ?_
  rw [← i_of32 (Int32.ofInt x &&& Int32.ofInt y)]
  exact k p e s m args below meth c H locs cells slots la C K R o1 (i_cons (i_inI _) (i_tail2 o2)) L S B c1 c2
theorem aw_ixor {x y : Int} (hd : decode (mC M) pc = .ok (.ixor, 1)) (k : AZ G M b (pc + 1) ls (vI (iXor x y) :: st) h Z) : AZ G M b pc ls (vI y :: vI x :: st) h Z := by
  intro p e s m args below meth c H locs cells slots la C K R o1 o2 L S B c1 c2
  refine lv_ixor C.1 C.2.1 hd ?_
  rw [← i_of32 (Int32.ofInt x ^^^ Int32.ofInt y)]
  exact k p e s m args below meth c H locs cells slots la C K R o1 (i_cons (i_inI _) (i_tail2 o2)) L S B c1 c2
theorem aw_dup {v : VV} (hd : decode (mC M) pc = .ok (.dup, 1)) (hv : isLg v = false) (k : AZ G M b (pc + 1) ls (v :: v :: st) h Z) : AZ G M b pc ls (v :: st) h Z := by
  intro p e s m args below meth c H locs cells slots la C K R o1 o2 L S B c1 c2
  exact lv_dup C.1 C.2.1 hd (cv_cat1 hv) (k p e s m args below meth c H locs cells slots la C K R o1 (i_cons (i_head o2) o2) L S B c1 c2)
theorem aw_dup2 {v u : VV} (hd : decode (mC M) pc = .ok (.dup2, 1)) (hv : isLg v = false) (hu : isLg u = false) (k : AZ G M b (pc + 1) ls (v :: u :: v :: u :: st) h Z) : AZ G M b pc ls (v :: u :: st) h Z := by
  intro p e s m args below meth c H locs cells slots la C K R o1 o2 L S B c1 c2
  exact lv_dup2_11 C.1 C.2.1 hd (cv_cat1 hv) (cv_cat1 hu) (k p e s m args below meth c H locs cells slots la C K R o1 (i_cons (i_head o2) (i_cons (i_head (i_tail o2)) o2)) L S B c1 c2)
theorem aw_pop {v : VV} (hd : decode (mC M) pc = .ok (.pop, 1)) (hv : isLg v = false) (k : AZ G M b (pc + 1) ls st h Z) : AZ G M b pc ls (v :: st) h Z := by
  intro p e s m args below meth c H locs cells slots la C K R o1 o2 L S B c1 c2
  exact lv_pop C.1 C.2.1 hd (cv_cat1 hv) (k p e s m args below meth c H locs cells slots la C K R o1 (i_tail o2) L S B c1 c2)
theorem l_of32 {x : Int} (hx : inI x) : (Int32.ofInt x).toInt64 = Int64.ofInt x := by
  apply Int64.toInt_inj.mp
  rw [Int32.toInt_toInt64, i_toInt hx]
  obtain ⟨h1, h2⟩ := hx
  exact (Int64.toInt_ofInt_of_le (by omega) (by omega)).symm
theorem l_toInt {x : Int} (hx : inL x) : (Int64.ofInt x).toInt = x := by
  obtain ⟨h1, h2⟩ := hx
  exact Int64.toInt_ofInt_of_le (by omega) (by omega)
theorem l_lt {x y : Int} (hx : inL x) (hy : inL y) : Int64.ofInt x < Int64.ofInt y ↔ x < y := by
  rw [Int64.lt_iff_toInt_lt, l_toInt hx, l_toInt hy]
theorem l_eq {x y : Int} (hx : inL x) (hy : inL y) : Int64.ofInt x = Int64.ofInt y ↔ x = y := by
  constructor
  · intro h
    rw [← l_toInt hx, ← l_toInt hy, h]
  · intro h; rw [h]
theorem aw_i2l {x : Int} (hd : decode (mC M) pc = .ok (.i2l, 1)) (k : AZ G M b (pc + 1) ls (vL x :: st) h Z) : AZ G M b pc ls (vI x :: st) h Z := by
  intro p e s m args below meth c H locs cells slots la C K R o1 o2 L S B c1 c2
  have hx : inI x := i_head o2
  have hl : inL x := ⟨by have := hx.1; omega, by have := hx.2; omega⟩
  exact lv_i2l C.1 C.2.1 hd (l_of32 hx) (k p e s m args below meth c H locs cells slots la C K R o1 (i_cons hl (i_tail o2)) L S B c1 c2)
theorem aw_lconst {n : Fin 2} {x : Int} (hd : decode (mC M) pc = .ok (.lconst n, 1)) (hx : inL x) (hv : Int64.ofNat (n : Nat) = Int64.ofInt x) (k : AZ G M b (pc + 1) ls (vL x :: st) h Z) : AZ G M b pc ls st h Z := by
  intro p e s m args below meth c H locs cells slots la C K R o1 o2 L S B c1 c2
  exact lv_lconst C.1 C.2.1 hd hv (k p e s m args below meth c H locs cells slots la C K R o1 (i_cons hx o2) L S B c1 c2)
theorem aw_ldc2 {idx : Nat} {x : Int} (hd : decode (mC M) pc = .ok (.ldc2_w idx, 3)) (hx : inL x) (hc : Cond.constantLong (mY M).cls idx (Int64.ofInt x) ∈ gw) (k : AZ G M b (pc + 3) ls (vL x :: st) h Z) : AZ G M b pc ls st h Z := by
  intro p e s m args below meth c H locs cells slots la C K R o1 o2 L S B c1 c2
  exact lv_ldc2 C.1 C.2.1 C.2.2.2.2.1 (C.2.2.2.2.2.1 _ hc) hd (k p e s m args below meth c H locs cells slots la C K R o1 (i_cons hx o2) L S B c1 c2)
def iCmp (x y : Int) : Int := if x < y then -1 else if x = y then 0 else 1
theorem aw_lcmp {x y : Int} (hd : decode (mC M) pc = .ok (.lcmp, 1)) (k : AZ G M b (pc + 1) ls (vI (iCmp x y) :: st) h Z) : AZ G M b pc ls (vL y :: vL x :: st) h Z := by
  intro p e s m args below meth c H locs cells slots la C K R o1 o2 L S B c1 c2
  have hx : inL x := i_head (i_tail o2)
  have hy : inL y := i_head o2
  have hr : inI (iCmp x y) := by
    unfold iCmp
    split
    · exact ⟨by decide, by decide⟩
    · split
      · exact ⟨by decide, by decide⟩
      · exact ⟨by decide, by decide⟩
  have hv : lg_cmp (Int64.ofInt x) (Int64.ofInt y) = Int32.ofInt (iCmp x y) := by
    unfold lg_cmp iCmp
    rcases Int.lt_trichotomy x y with q | q | q
    · simp [l_lt hx hy, l_eq hx hy, l_lt hy hx, q, Int.lt_irrefl, Int.not_lt.mpr (Int.le_of_lt q), show ¬ x = y by omega]
    · subst q
      simp
    · simp [l_lt hx hy, l_eq hx hy, l_lt hy hx, q, Int.not_lt.mpr (Int.le_of_lt q), show ¬ x = y by omega]
  refine W.lcmp C.1 C.2.1 hd ?_
  rw [hv]
  exact k p e s m args below meth c H locs cells slots la C K R o1 (i_cons hr (i_tail2 o2)) L S B c1 c2
theorem aw_i2c {x : Int} (hd : decode (mC M) pc = .ok (.i2c, 1)) (h0 : 0 ≤ x) (h1 : x < 65536) (k : AZ G M b (pc + 1) ls (vI x :: st) h Z) : AZ G M b pc ls (vI x :: st) h Z := by
  intro p e s m args below meth c H locs cells slots la C K R o1 o2 L S B c1 c2
  have hx : inI x := i_head o2
  refine lv_i2c C.1 C.2.1 hd (v := Int32.ofInt x) ?_ (k p e s m args below meth c H locs cells slots la C K R o1 o2 L S B c1 c2)
  rw [pk_char, i_nI h0, pk_tn (by omega), Nat.mod_eq_of_lt (by omega)]
theorem aw_null (hd : decode (mC M) pc = .ok (.aconst_null, 1)) (k : AZ G M b (pc + 1) ls (vR 0 :: st) h Z) : AZ G M b pc ls st h Z := by
  intro p e s m args below meth c H locs cells slots la C K R o1 o2 L S B c1 c2
  exact lv_null C.1 C.2.1 hd (k p e s m args below meth c H locs cells slots la C K R o1 (i_cons inI_0 o2) L S B c1 c2)
theorem aw_ifnull {a off : Int} {tgt : Nat} (hd : decode (mC M) pc = .ok (.ifnull off, 3)) (ht : (pc : Int) + off = (tgt : Int)) (kt : a = 0 → AZ G M b tgt ls st h Z) (kf : ¬ a = 0 → AZ G M b (pc + 3) ls st h Z) : AZ G M b pc ls (vR a :: st) h Z := by
  intro p e s m args below meth c H locs cells slots la C K R o1 o2 L S B c1 c2
  by_cases ha : a = 0
  · have W1 := kt ha p e s m args below meth c H locs cells slots la C K R o1 (i_tail o2) L S B c1 c2
    subst ha
    exact lv_ifnullN C.1 C.2.1 hd ht W1
  · have W1 := kf ha p e s m args below meth c H locs cells slots la C K R o1 (i_tail o2) L S B c1 c2
    have e0 : cv G (vR a) = .ref (adr G a) := by simp [cv, rfo, ha, va_rf]
    rw [List.map_cons, e0]
    exact lv_ifnull C.1 C.2.1 hd W1
theorem aw_ifnonnull {a off : Int} {tgt : Nat} (hd : decode (mC M) pc = .ok (.ifnonnull off, 3)) (ht : (pc : Int) + off = (tgt : Int)) (kt : ¬ a = 0 → AZ G M b tgt ls st h Z) (kf : a = 0 → AZ G M b (pc + 3) ls st h Z) : AZ G M b pc ls (vR a :: st) h Z := by
  intro p e s m args below meth c H locs cells slots la C K R o1 o2 L S B c1 c2
  by_cases ha : a = 0
  · have W1 := kf ha p e s m args below meth c H locs cells slots la C K R o1 (i_tail o2) L S B c1 c2
    subst ha
    exact lv_ifnonnullN C.1 C.2.1 hd W1
  · have W1 := kt ha p e s m args below meth c H locs cells slots la C K R o1 (i_tail o2) L S B c1 c2
    have e0 : cv G (vR a) = .ref (adr G a) := by simp [cv, rfo, ha, va_rf]
    rw [List.map_cons, e0]
    exact lv_ifnonnull C.1 C.2.1 hd ht W1
theorem aw_tableIn {dflt lo hi : Int} {offs : Array Int} {len : Nat} {x off : Int} {tgt : Nat} (hd : decode (mC M) pc = .ok (.tableswitch dflt lo hi offs, len)) (h1 : lo ≤ x) (h2 : x ≤ hi) (ho : offs[(x - lo).toNat]? = some off) (ht : (pc : Int) + off = (tgt : Int)) (k : AZ G M b tgt ls st h Z) : AZ G M b pc ls (vI x :: st) h Z := by
  intro p e s m args below meth c H locs cells slots la C K R o1 o2 L S B c1 c2
  have hx : inI x := i_head o2
  exact lv_tableIn C.1 C.2.1 hd (by rw [i_toInt hx]; omega) (by rw [i_toInt hx]; omega) (by rw [i_toInt hx]; exact ho) ht (k p e s m args below meth c H locs cells slots la C K R o1 (i_tail o2) L S B c1 c2)
theorem aw_tableOut {dflt lo hi : Int} {offs : Array Int} {len : Nat} {x : Int} {tgt : Nat} (hd : decode (mC M) pc = .ok (.tableswitch dflt lo hi offs, len)) (h1 : x < lo ∨ hi < x) (ht : (pc : Int) + dflt = (tgt : Int)) (k : AZ G M b tgt ls st h Z) : AZ G M b pc ls (vI x :: st) h Z := by
  intro p e s m args below meth c H locs cells slots la C K R o1 o2 L S B c1 c2
  have hx : inI x := i_head o2
  exact lv_tableOut C.1 C.2.1 hd (by rw [i_toInt hx]; exact h1) ht (k p e s m args below meth c H locs cells slots la C K R o1 (i_tail o2) L S B c1 c2)
theorem aw_lookup {dflt : Int} {ps : Array (Int × Int)} {len : Nat} {x off : Int} {tgt : Nat} (hd : decode (mC M) pc = .ok (.lookupswitch dflt ps, len)) (hp : (ps.toList.zip (ps.toList.drop 1)).all (fun (a, next) => a.1 < next.1) = true) (ho : Op.lookupswitch.offset ps.toList dflt x = off) (ht : (pc : Int) + off = (tgt : Int)) (k : AZ G M b tgt ls st h Z) : AZ G M b pc ls (vI x :: st) h Z := by
  intro p e s m args below meth c H locs cells slots la C K R o1 o2 L S B c1 c2
  have hx : inI x := i_head o2
  exact lv_lookup C.1 C.2.1 hd hp (by rw [i_toInt hx]; exact ho) ht (k p e s m args below meth c H locs cells slots la C K R o1 (i_tail o2) L S B c1 c2)
end AR2
