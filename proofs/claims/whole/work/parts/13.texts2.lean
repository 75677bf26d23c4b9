/-! the script's length and ints; a text constant by its address -/
abbrev sL (G : GG) : Int := ((G.2.2.2.2.2.1 : Nat) : Int)
abbrev sX (G : GG) (i : Int) : Int := (G.2.2.2.2.2.2 i.toNat).toInt
theorem aw_ldcA {G : GG} {M : MT} {b : Nat × Nat} {pc : Nat} {ls : List (Nat × VV)} {st : List VV} {h : Hp} {Z : LZ} {idx : Nat} {a : Int} (i : Nat) {tx : String} (hi : txR[i]? = some (idx, tx)) (ho : (mY M).cls = RX6) (hd : decode (mC M) pc = .ok (.ldc idx, 2)) (hx : inI a) (ha : a = -2 - (i : Int)) (k : AZ G M b (pc + 2) ls (vR a :: st) h Z) : AZ G M b pc ls st h Z := by
  subst ha
  exact aw_ldcS i hi ho hd hx k
