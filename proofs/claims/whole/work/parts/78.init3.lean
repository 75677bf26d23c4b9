/-! the constructors: the reference; what holds at first -/
def wdz : List Int := [97, 108, 108, 0, 0, 107, 101, 121, 0, 0, 99, 101, 108, 108, 0, 100, 101, 108, 97, 121, 97, 105, 109, 0, 0, 106, 111, 105, 110, 0]
def wdf : Int → Int := fun x => if 0 ≤ x ∧ x < 30 then wdz.getD x.toNat 0 else 0
def dlf : Int → Int := fun x => if x = 0 ∨ x = 1 then 1 else 0
def Dx : List (Int × Int × Int × (Int → Int)) := [(0, 20, 24, Zf), (1, 20, 8, Zf), (2, 20, 8, Zf), (3, 20, 8, Zf), (4, 20, 4, Zf), (5, 20, 4, Zf), (6, 20, 4, Zf), (7, 20, 112, Zf), (8, 20, 4, Zf), (9, 20, 4, Zf), (10, 20, 12, Zf), (11, 20, 4, Zf), (12, 20, 4, Zf), (13, 21, 4, Zf), (14, 20, 4, Zf), (15, 20, 16, Zf), (16, 20, 4, Zf), (17, 20, 4, Zf), (18, 20, 2, dlf), (20, 20, 264, Zf), (23, 20, 6000, Zf), (24, 20, 2, Zf), (25, 20, 2, Zf), (26, 20, 6, Zf), (30, 20, 200, Zf), (36, 20, 5, Zf), (37, 20, 30, wdf), (38, 20, 11, Zf)]
abbrev dx (i : Nat) : Int × Int × Int × (Int → Int) := Dx.getD i (0, 0, 0, Zf)
/-- the first n rows of the reference are made -/
def RS (n : Nat) (h0 g : Hp) : Prop := g 0 0 = 89 + n ∧ (∀ a, 1 ≤ a → a ≤ 88 → g a = h0 a) ∧ (∀ i : Nat, i < n → g (90 + (i : Int)) = ro (dx i).2.1 (dx i).2.2.1 (dx i).2.2.2 ∧ g 89 (dx i).1 = 90 + i) ∧ ∀ x, (∀ i : Nat, i < n → x ≠ (dx i).1) → g 89 x = h0 89 x
theorem RS_s {n : Nat} {h0 h g : Hp} {f : Int → Int} (R : RS n h0 h) (hd : ∀ i : Nat, i < n → (dx i).1 ≠ (dx n).1) (g0 : g 0 0 = 90 + n) (off : ∀ a : Int, 1 ≤ a → a ≤ 89 + (n : Int) → a ≠ 89 → g a = h a) (gn : g (90 + n) = ro (dx n).2.1 (dx n).2.2.1 f) (hf : f = (dx n).2.2.2) (g9 : g 89 = fun x => if x = (dx n).1 then 90 + (n : Int) else h 89 x) : RS (n + 1) h0 g := by
  obtain ⟨r1, r2, r3, r4⟩ := R
  refine ⟨by rw [g0]; show 90 + (n : Int) = 89 + ((n : Int) + 1); omega, fun a a0 a1 => by rw [off a a0 (by omega) (by omega)]; exact r2 a a0 a1, fun i hi => ?_, fun x hx => ?_⟩
  · by_cases hin : i = n
    · subst hin
      refine ⟨by rw [gn, hf], ?_⟩
      rw [g9]
      exact if_pos rfl
    · have := r3 i (by omega)
      refine ⟨by rw [off _ (by omega) (by omega) (by omega)]; exact this.1, ?_⟩
      rw [g9]
      dsimp only
      rw [if_neg (hd i (by omega))]
      exact this.2
  · rw [g9]
    dsimp only
    rw [if_neg (hx n (by omega))]
    exact r4 x (fun i hi => hx i (by omega))
theorem RS_a {n : Nat} {h0 h h2 : Hp} {k c l : Int} (R : RS n h0 h) (e : h2 = wr (nw h c l) 89 k (h 0 0 + 1)) (hk : k = (dx n).1) (hc : c = (dx n).2.1) (hl : l = (dx n).2.2.1) (hf : (dx n).2.2.2 = Zf) (hd : ∀ i : Nat, i < n → (dx i).1 ≠ (dx n).1) : RS (n + 1) h0 h2 := by
  have t := R.1
  rw [t] at e
  obtain ⟨p1, p2, p3, p4⟩ := stA t (by decide) (by omega) e
  rw [show 89 + (n : Int) + 1 = 90 + n by omega] at p1 p2 p4
  rw [hc, hl] at p2
  rw [hk] at p4
  exact RS_s R hd p1 p3 p2 hf.symm p4
section KK
variable {G : GG} {Q : Option VV → Hp → Prop}
set_option maxHeartbeats 8000000 in
theorem K_i10 {h : Hp} (hT : h 0 0 = 89) (hr : h 89 = ro 11 0 Zf) (hk : ∀ g, RS 28 h g → Q none g) : Runs G mm_X10_init [vR 89] h Q := by
  have R0 : RS 0 h h := ⟨hT, fun _ _ _ => rfl, fun i hi => by omega, fun _ _ => rfl⟩
  refine Runs.of (by decide +kernel) (Nat.le_of_ble_eq_true rfl) (sg_X10_init_0 (b := (28, 6754)) ?_)
  refine ⟨by rw [hr]; exact ro_s, ?_⟩
  have T0 := R0.1
  refine ⟨by unfold inI; omega, Nat.le_of_ble_eq_true rfl, Nat.le_of_ble_eq_true rfl, ?_⟩
  intro a7 ea7 h1 eh1 h2 eh2
  rw [eh1, ea7] at eh2
  have R1 := RS_a R0 eh2 rfl rfl rfl rfl (by decide +kernel)
  clear eh2 eh1
  have T1 := R1.1
  refine ⟨by unfold inI; omega, Nat.le_of_ble_eq_true rfl, Nat.le_of_ble_eq_true rfl, ?_⟩
  intro a17 ea17 h3 eh3 h4 eh4
  rw [eh3, ea17] at eh4
  have R2 := RS_a R1 eh4 rfl rfl rfl rfl (by decide +kernel)
  clear eh4 eh3
  have T2 := R2.1
  refine ⟨by unfold inI; omega, Nat.le_of_ble_eq_true rfl, Nat.le_of_ble_eq_true rfl, ?_⟩
  intro a28 ea28 h5 eh5 h6 eh6
  rw [eh5, ea28] at eh6
  have R3 := RS_a R2 eh6 rfl rfl rfl rfl (by decide +kernel)
  clear eh6 eh5
  have T3 := R3.1
  refine ⟨by unfold inI; omega, Nat.le_of_ble_eq_true rfl, Nat.le_of_ble_eq_true rfl, ?_⟩
  intro a39 ea39 h7 eh7 h8 eh8
  rw [eh7, ea39] at eh8
  have R4 := RS_a R3 eh8 rfl rfl rfl rfl (by decide +kernel)
  clear eh8 eh7
  have T4 := R4.1
  refine ⟨by unfold inI; omega, Nat.le_of_ble_eq_true rfl, Nat.le_of_ble_eq_true rfl, ?_⟩
  intro a50 ea50 h9 eh9 h10 eh10
  rw [eh9, ea50] at eh10
  have R5 := RS_a R4 eh10 rfl rfl rfl rfl (by decide +kernel)
  clear eh10 eh9
  have T5 := R5.1
  refine ⟨by unfold inI; omega, Nat.le_of_ble_eq_true rfl, Nat.le_of_ble_eq_true rfl, ?_⟩
  intro a61 ea61 h11 eh11 h12 eh12
  rw [eh11, ea61] at eh12
  have R6 := RS_a R5 eh12 rfl rfl rfl rfl (by decide +kernel)
  clear eh12 eh11
  have T6 := R6.1
  refine ⟨by unfold inI; omega, Nat.le_of_ble_eq_true rfl, Nat.le_of_ble_eq_true rfl, ?_⟩
  intro a72 ea72 h13 eh13 h14 eh14
  rw [eh13, ea72] at eh14
  have R7 := RS_a R6 eh14 rfl rfl rfl rfl (by decide +kernel)
  clear eh14 eh13
  have T7 := R7.1
  refine ⟨by unfold inI; omega, Nat.le_of_ble_eq_true rfl, Nat.le_of_ble_eq_true rfl, ?_⟩
  intro a83 ea83 h15 eh15 h16 eh16
  rw [eh15, ea83] at eh16
  have R8 := RS_a R7 eh16 rfl rfl rfl rfl (by decide +kernel)
  clear eh16 eh15
  have T8 := R8.1
  refine ⟨by unfold inI; omega, Nat.le_of_ble_eq_true rfl, Nat.le_of_ble_eq_true rfl, ?_⟩
  intro a94 ea94 h17 eh17 h18 eh18
  rw [eh17, ea94] at eh18
  have R9 := RS_a R8 eh18 rfl rfl rfl rfl (by decide +kernel)
  clear eh18 eh17
  have T9 := R9.1
  refine ⟨by unfold inI; omega, Nat.le_of_ble_eq_true rfl, Nat.le_of_ble_eq_true rfl, ?_⟩
  intro a105 ea105 h19 eh19 h20 eh20
  rw [eh19, ea105] at eh20
  have R10 := RS_a R9 eh20 rfl rfl rfl rfl (by decide +kernel)
  clear eh20 eh19
  have T10 := R10.1
  refine ⟨by unfold inI; omega, Nat.le_of_ble_eq_true rfl, Nat.le_of_ble_eq_true rfl, ?_⟩
  intro a116 ea116 h21 eh21 h22 eh22
  rw [eh21, ea116] at eh22
  have R11 := RS_a R10 eh22 rfl rfl rfl rfl (by decide +kernel)
  clear eh22 eh21
  have T11 := R11.1
  refine ⟨by unfold inI; omega, Nat.le_of_ble_eq_true rfl, Nat.le_of_ble_eq_true rfl, ?_⟩
  intro a127 ea127 h23 eh23 h24 eh24
  rw [eh23, ea127] at eh24
  have R12 := RS_a R11 eh24 rfl rfl rfl rfl (by decide +kernel)
  clear eh24 eh23
  have T12 := R12.1
  refine ⟨by unfold inI; omega, Nat.le_of_ble_eq_true rfl, Nat.le_of_ble_eq_true rfl, ?_⟩
  intro a138 ea138 h25 eh25 h26 eh26
  rw [eh25, ea138] at eh26
  have R13 := RS_a R12 eh26 rfl rfl rfl rfl (by decide +kernel)
  clear eh26 eh25
  have T13 := R13.1
  refine ⟨by unfold inI; omega, Nat.le_of_ble_eq_true rfl, Nat.le_of_ble_eq_true rfl, ?_⟩
  intro a149 ea149 h27 eh27 h28 eh28
  rw [eh27, ea149] at eh28
  have R14 := RS_a R13 eh28 rfl rfl rfl rfl (by decide +kernel)
  clear eh28 eh27
  have T14 := R14.1
  refine ⟨by unfold inI; omega, Nat.le_of_ble_eq_true rfl, Nat.le_of_ble_eq_true rfl, ?_⟩
  intro a160 ea160 h29 eh29 h30 eh30
  rw [eh29, ea160] at eh30
  have R15 := RS_a R14 eh30 rfl rfl rfl rfl (by decide +kernel)
  clear eh30 eh29
  have T15 := R15.1
  refine ⟨by unfold inI; omega, Nat.le_of_ble_eq_true rfl, Nat.le_of_ble_eq_true rfl, ?_⟩
  intro a171 ea171 h31 eh31 h32 eh32
  rw [eh31, ea171] at eh32
  have R16 := RS_a R15 eh32 rfl rfl rfl rfl (by decide +kernel)
  clear eh32 eh31
  have T16 := R16.1
  refine ⟨by unfold inI; omega, Nat.le_of_ble_eq_true rfl, Nat.le_of_ble_eq_true rfl, ?_⟩
  intro a182 ea182 h33 eh33 h34 eh34
  rw [eh33, ea182] at eh34
  have R17 := RS_a R16 eh34 rfl rfl rfl rfl (by decide +kernel)
  clear eh34 eh33
  have T17 := R17.1
  refine ⟨by unfold inI; omega, Nat.le_of_ble_eq_true rfl, Nat.le_of_ble_eq_true rfl, ?_⟩
  intro a193 ea193 h35 eh35 h36 eh36
  rw [eh35, ea193] at eh36
  have R18 := RS_a R17 eh36 rfl rfl rfl rfl (by decide +kernel)
  clear eh36 eh35
  have T18 := R18.1
  refine ⟨by unfold inI; omega, Nat.le_of_ble_eq_true rfl, Nat.le_of_ble_eq_true rfl, ?_⟩
  intro a204 ea204 h37 eh37 h38 eh38 h39 eh39 h40 eh40
  rw [T18] at ea204
  have ea18 : a204 = 108 := ea204
  obtain ⟨p1, p2, p3⟩ := stN T18 (by decide) eh37
  obtain ⟨x0, y0, z0⟩ := stW (by omega) eh38
  obtain ⟨x1, y1, z1⟩ := stW (by omega) eh39
  obtain ⟨x2, y2, z2⟩ := stW (by decide) eh40
  have off : ∀ b : Int, 1 ≤ b → b ≤ 89 + ((18 : Nat) : Int) → b ≠ 89 → h40 b = h36 b := fun b b0 b1 b2 => by rw [y2 b b2, y1 b (by omega), y0 b (by omega), p3 b b0 (by omega)]
  have gn : h40 (90 + ((18 : Nat) : Int)) = ro 20 2 dlf := by
    show h40 108 = _
    rw [ea18] at z0 z1
    have p2 : h37 108 = ro 20 2 Zf := p2
    rw [y2 _ (by decide), z1, z0, p2]
    funext x
    simp only [ro, Zf, dlf]
    (repeat' split) <;> first | rfl | omega
  have g9 : h40 89 = fun x => if x = (dx 18).1 then 90 + ((18 : Nat) : Int) else h36 89 x := by
    rw [z2, y1 89 (by omega), y0 89 (by omega), p3 89 (by decide) (by decide), ea18]
    rfl
  have R19 : RS 19 h h40 := RS_s R18 (by decide +kernel) (by show h40 0 0 = 108; omega) off gn rfl g9
  clear off gn g9 x0 y0 z0 x1 y1 z1 x2 y2 z2
  clear eh39 eh38 p1 p2 p3
  have T19 := R19.1
  refine ⟨by unfold inI; omega, Nat.le_of_ble_eq_true rfl, Nat.le_of_ble_eq_true rfl, ?_⟩
  intro a220 ea220 h41 eh41 h42 eh42
  rw [eh41, ea220] at eh42
  have R20 := RS_a R19 eh42 rfl rfl rfl rfl (by decide +kernel)
  clear eh42 eh41
  have T20 := R20.1
  refine ⟨by unfold inI; omega, Nat.le_of_ble_eq_true rfl, Nat.le_of_ble_eq_true rfl, ?_⟩
  intro a231 ea231 h43 eh43 h44 eh44
  rw [eh43, ea231] at eh44
  have R21 := RS_a R20 eh44 rfl rfl rfl rfl (by decide +kernel)
  clear eh44 eh43
  have T21 := R21.1
  refine ⟨by unfold inI; omega, Nat.le_of_ble_eq_true rfl, Nat.le_of_ble_eq_true rfl, ?_⟩
  intro a242 ea242 h45 eh45 h46 eh46
  rw [eh45, ea242] at eh46
  have R22 := RS_a R21 eh46 rfl rfl rfl rfl (by decide +kernel)
  clear eh46 eh45
  have T22 := R22.1
  refine ⟨by unfold inI; omega, Nat.le_of_ble_eq_true rfl, Nat.le_of_ble_eq_true rfl, ?_⟩
  intro a253 ea253 h47 eh47 h48 eh48
  rw [eh47, ea253] at eh48
  have R23 := RS_a R22 eh48 rfl rfl rfl rfl (by decide +kernel)
  clear eh48 eh47
  have T23 := R23.1
  refine ⟨by unfold inI; omega, Nat.le_of_ble_eq_true rfl, Nat.le_of_ble_eq_true rfl, ?_⟩
  intro a264 ea264 h49 eh49 h50 eh50
  rw [eh49, ea264] at eh50
  have R24 := RS_a R23 eh50 rfl rfl rfl rfl (by decide +kernel)
  clear eh50 eh49
  have T24 := R24.1
  refine ⟨by unfold inI; omega, Nat.le_of_ble_eq_true rfl, Nat.le_of_ble_eq_true rfl, ?_⟩
  intro a275 ea275 h51 eh51 h52 eh52
  rw [eh51, ea275] at eh52
  have R25 := RS_a R24 eh52 rfl rfl rfl rfl (by decide +kernel)
  clear eh52 eh51
  have T25 := R25.1
  refine ⟨by unfold inI; omega, Nat.le_of_ble_eq_true rfl, Nat.le_of_ble_eq_true rfl, ?_⟩
  intro a286 ea286 h53 eh53 h54 eh54
  rw [eh53, ea286] at eh54
  have R26 := RS_a R25 eh54 rfl rfl rfl rfl (by decide +kernel)
  clear eh54 eh53
  have T26 := R26.1
  refine ⟨by unfold inI; omega, Nat.le_of_ble_eq_true rfl, Nat.le_of_ble_eq_true rfl, ?_⟩
  intro a297 ea297 h55 eh55 h56 eh56 h57 eh57 h58 eh58 h59 eh59 h60 eh60 h61 eh61 h62 eh62 h63 eh63 h64 eh64 h65 eh65 h66 eh66 h67 eh67 h68 eh68 h69 eh69 h70 eh70 h71 eh71 h72 eh72 h73 eh73 h74 eh74 h75 eh75 h76 eh76 h77 eh77 h78 eh78 h79 eh79 h80 eh80 h81 eh81 h82 eh82 h83 eh83 h84 eh84 h85 eh85 h86 eh86
  rw [T26] at ea297
  have ea26 : a297 = 116 := ea297
  obtain ⟨p1, p2, p3⟩ := stN T26 (by decide) eh55
  obtain ⟨x0, y0, z0⟩ := stW (by omega) eh56
  obtain ⟨x1, y1, z1⟩ := stW (by omega) eh57
  obtain ⟨x2, y2, z2⟩ := stW (by omega) eh58
  obtain ⟨x3, y3, z3⟩ := stW (by omega) eh59
  obtain ⟨x4, y4, z4⟩ := stW (by omega) eh60
  obtain ⟨x5, y5, z5⟩ := stW (by omega) eh61
  obtain ⟨x6, y6, z6⟩ := stW (by omega) eh62
  obtain ⟨x7, y7, z7⟩ := stW (by omega) eh63
  obtain ⟨x8, y8, z8⟩ := stW (by omega) eh64
  obtain ⟨x9, y9, z9⟩ := stW (by omega) eh65
  obtain ⟨x10, y10, z10⟩ := stW (by omega) eh66
  obtain ⟨x11, y11, z11⟩ := stW (by omega) eh67
  obtain ⟨x12, y12, z12⟩ := stW (by omega) eh68
  obtain ⟨x13, y13, z13⟩ := stW (by omega) eh69
  obtain ⟨x14, y14, z14⟩ := stW (by omega) eh70
  obtain ⟨x15, y15, z15⟩ := stW (by omega) eh71
  obtain ⟨x16, y16, z16⟩ := stW (by omega) eh72
  obtain ⟨x17, y17, z17⟩ := stW (by omega) eh73
  obtain ⟨x18, y18, z18⟩ := stW (by omega) eh74
  obtain ⟨x19, y19, z19⟩ := stW (by omega) eh75
  obtain ⟨x20, y20, z20⟩ := stW (by omega) eh76
  obtain ⟨x21, y21, z21⟩ := stW (by omega) eh77
  obtain ⟨x22, y22, z22⟩ := stW (by omega) eh78
  obtain ⟨x23, y23, z23⟩ := stW (by omega) eh79
  obtain ⟨x24, y24, z24⟩ := stW (by omega) eh80
  obtain ⟨x25, y25, z25⟩ := stW (by omega) eh81
  obtain ⟨x26, y26, z26⟩ := stW (by omega) eh82
  obtain ⟨x27, y27, z27⟩ := stW (by omega) eh83
  obtain ⟨x28, y28, z28⟩ := stW (by omega) eh84
  obtain ⟨x29, y29, z29⟩ := stW (by omega) eh85
  obtain ⟨x30, y30, z30⟩ := stW (by decide) eh86
  have off : ∀ b : Int, 1 ≤ b → b ≤ 89 + ((26 : Nat) : Int) → b ≠ 89 → h86 b = h54 b := fun b b0 b1 b2 => by rw [y30 b b2, y29 b (by omega), y28 b (by omega), y27 b (by omega), y26 b (by omega), y25 b (by omega), y24 b (by omega), y23 b (by omega), y22 b (by omega), y21 b (by omega), y20 b (by omega), y19 b (by omega), y18 b (by omega), y17 b (by omega), y16 b (by omega), y15 b (by omega), y14 b (by omega), y13 b (by omega), y12 b (by omega), y11 b (by omega), y10 b (by omega), y9 b (by omega), y8 b (by omega), y7 b (by omega), y6 b (by omega), y5 b (by omega), y4 b (by omega), y3 b (by omega), y2 b (by omega), y1 b (by omega), y0 b (by omega), p3 b b0 (by omega)]
  have gn : h86 (90 + ((26 : Nat) : Int)) = ro 20 30 wdf := by
    show h86 116 = _
    rw [ea26] at z0 z1 z2 z3 z4 z5 z6 z7 z8 z9 z10 z11 z12 z13 z14 z15 z16 z17 z18 z19 z20 z21 z22 z23 z24 z25 z26 z27 z28 z29
    have p2 : h55 116 = ro 20 30 Zf := p2
    rw [y30 _ (by decide), z29, z28, z27, z26, z25, z24, z23, z22, z21, z20, z19, z18, z17, z16, z15, z14, z13, z12, z11, z10, z9, z8, z7, z6, z5, z4, z3, z2, z1, z0, p2]
    funext x
    by_cases hx : 0 ≤ x ∧ x < 30
    · obtain ⟨q, hq, rfl⟩ : ∃ q : Nat, q < 30 ∧ x = (q : Int) := ⟨x.toNat, by omega, by omega⟩
      clear hx
      rcases (show q = 0 ∨ q = 1 ∨ q = 2 ∨ q = 3 ∨ q = 4 ∨ q = 5 ∨ q = 6 ∨ q = 7 ∨ q = 8 ∨ q = 9 ∨ q = 10 ∨ q = 11 ∨ q = 12 ∨ q = 13 ∨ q = 14 ∨ q = 15 ∨ q = 16 ∨ q = 17 ∨ q = 18 ∨ q = 19 ∨ q = 20 ∨ q = 21 ∨ q = 22 ∨ q = 23 ∨ q = 24 ∨ q = 25 ∨ q = 26 ∨ q = 27 ∨ q = 28 ∨ q = 29 by omega) with rfl | rfl | rfl | rfl | rfl | rfl | rfl | rfl | rfl | rfl | rfl | rfl | rfl | rfl | rfl | rfl | rfl | rfl | rfl | rfl | rfl | rfl | rfl | rfl | rfl | rfl | rfl | rfl | rfl | rfl <;> rfl
    · simp only [ro, Zf, wdf, if_neg hx]
      rw [if_neg (by omega), if_neg (by omega), if_neg (by omega), if_neg (by omega), if_neg (by omega), if_neg (by omega), if_neg (by omega), if_neg (by omega), if_neg (by omega), if_neg (by omega), if_neg (by omega), if_neg (by omega), if_neg (by omega), if_neg (by omega), if_neg (by omega), if_neg (by omega), if_neg (by omega), if_neg (by omega), if_neg (by omega), if_neg (by omega), if_neg (by omega), if_neg (by omega), if_neg (by omega), if_neg (by omega), if_neg (by omega), if_neg (by omega), if_neg (by omega), if_neg (by omega), if_neg (by omega), if_neg (by omega)]
  have g9 : h86 89 = fun x => if x = (dx 26).1 then 90 + ((26 : Nat) : Int) else h54 89 x := by
    rw [z30, y29 89 (by omega), y28 89 (by omega), y27 89 (by omega), y26 89 (by omega), y25 89 (by omega), y24 89 (by omega), y23 89 (by omega), y22 89 (by omega), y21 89 (by omega), y20 89 (by omega), y19 89 (by omega), y18 89 (by omega), y17 89 (by omega), y16 89 (by omega), y15 89 (by omega), y14 89 (by omega), y13 89 (by omega), y12 89 (by omega), y11 89 (by omega), y10 89 (by omega), y9 89 (by omega), y8 89 (by omega), y7 89 (by omega), y6 89 (by omega), y5 89 (by omega), y4 89 (by omega), y3 89 (by omega), y2 89 (by omega), y1 89 (by omega), y0 89 (by omega), p3 89 (by decide) (by decide), ea26]
    rfl
  have R27 : RS 27 h h86 := RS_s R26 (by decide +kernel) (by show h86 0 0 = 116; omega) off gn rfl g9
  clear off gn g9 x0 y0 z0 x1 y1 z1 x2 y2 z2 x3 y3 z3 x4 y4 z4 x5 y5 z5 x6 y6 z6 x7 y7 z7 x8 y8 z8 x9 y9 z9 x10 y10 z10 x11 y11 z11 x12 y12 z12 x13 y13 z13 x14 y14 z14 x15 y15 z15 x16 y16 z16 x17 y17 z17 x18 y18 z18 x19 y19 z19 x20 y20 z20 x21 y21 z21 x22 y22 z22 x23 y23 z23 x24 y24 z24 x25 y25 z25 x26 y26 z26 x27 y27 z27 x28 y28 z28 x29 y29 z29 x30 y30 z30
  clear eh85 eh84 eh83 eh82 eh81 eh80 eh79 eh78 eh77 eh76 eh75 eh74 eh73 eh72 eh71 eh70 eh69 eh68 eh67 eh66 eh65 eh64 eh63 eh62 eh61 eh60 eh59 eh58 eh57 eh56 p1 p2 p3
  have T27 := R27.1
  refine ⟨by unfold inI; omega, Nat.le_of_ble_eq_true rfl, Nat.le_of_ble_eq_true rfl, ?_⟩
  intro a397 ea397 h87 eh87 h88 eh88
  rw [eh87, ea397] at eh88
  have R28 := RS_a R27 eh88 rfl rfl rfl rfl (by decide +kernel)
  clear eh88 eh87
  exact hk _ R28
end KK
