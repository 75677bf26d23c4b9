/-! printed by writeseg.py: segments of methods -/
set_option maxRecDepth 20000 in
theorem sg_X10_init_0 {G : GG} {b : Nat × Nat} {Q : Option VV → Hp → Prop} {v0 : Int} {h : Hp} (k : (h v0 (-1) = 11) ∧ (inI (h 0 0 + 1)) ∧ (1 ≤ b.1) ∧ (24 ≤ b.2) ∧ ∀ a7, a7 = h 0 0 + 1 → ∀ h1, h1 = nw h 20 24 → ∀ h2, h2 = wr h1 v0 0 a7 → (inI (h2 0 0 + 1)) ∧ (1 ≤ b.1 - 1) ∧ (8 ≤ b.2 - 24) ∧ ∀ a17, a17 = h2 0 0 + 1 → ∀ h3, h3 = nw h2 20 8 → ∀ h4, h4 = wr h3 v0 1 a17 → (inI (h4 0 0 + 1)) ∧ (1 ≤ b.1 - 1 - 1) ∧ (8 ≤ b.2 - 24 - 8) ∧ ∀ a28, a28 = h4 0 0 + 1 → ∀ h5, h5 = nw h4 20 8 → ∀ h6, h6 = wr h5 v0 2 a28 → (inI (h6 0 0 + 1)) ∧ (1 ≤ b.1 - 1 - 1 - 1) ∧ (8 ≤ b.2 - 24 - 8 - 8) ∧ ∀ a39, a39 = h6 0 0 + 1 → ∀ h7, h7 = nw h6 20 8 → ∀ h8, h8 = wr h7 v0 3 a39 → (inI (h8 0 0 + 1)) ∧ (1 ≤ b.1 - 1 - 1 - 1 - 1) ∧ (4 ≤ b.2 - 24 - 8 - 8 - 8) ∧ ∀ a50, a50 = h8 0 0 + 1 → ∀ h9, h9 = nw h8 20 4 → ∀ h10, h10 = wr h9 v0 4 a50 → (inI (h10 0 0 + 1)) ∧ (1 ≤ b.1 - 1 - 1 - 1 - 1 - 1) ∧ (4 ≤ b.2 - 24 - 8 - 8 - 8 - 4) ∧ ∀ a61, a61 = h10 0 0 + 1 → ∀ h11, h11 = nw h10 20 4 → ∀ h12, h12 = wr h11 v0 5 a61 → (inI (h12 0 0 + 1)) ∧ (1 ≤ b.1 - 1 - 1 - 1 - 1 - 1 - 1) ∧ (4 ≤ b.2 - 24 - 8 - 8 - 8 - 4 - 4) ∧ ∀ a72, a72 = h12 0 0 + 1 → ∀ h13, h13 = nw h12 20 4 → ∀ h14, h14 = wr h13 v0 6 a72 → (inI (h14 0 0 + 1)) ∧ (1 ≤ b.1 - 1 - 1 - 1 - 1 - 1 - 1 - 1) ∧ (112 ≤ b.2 - 24 - 8 - 8 - 8 - 4 - 4 - 4) ∧ ∀ a83, a83 = h14 0 0 + 1 → ∀ h15, h15 = nw h14 20 112 → ∀ h16, h16 = wr h15 v0 7 a83 → (inI (h16 0 0 + 1)) ∧ (1 ≤ b.1 - 1 - 1 - 1 - 1 - 1 - 1 - 1 - 1) ∧ (4 ≤ b.2 - 24 - 8 - 8 - 8 - 4 - 4 - 4 - 112) ∧ ∀ a94, a94 = h16 0 0 + 1 → ∀ h17, h17 = nw h16 20 4 → ∀ h18, h18 = wr h17 v0 8 a94 → (inI (h18 0 0 + 1)) ∧ (1 ≤ b.1 - 1 - 1 - 1 - 1 - 1 - 1 - 1 - 1 - 1) ∧ (4 ≤ b.2 - 24 - 8 - 8 - 8 - 4 - 4 - 4 - 112 - 4) ∧ ∀ a105, a105 = h18 0 0 + 1 → ∀ h19, h19 = nw h18 20 4 → ∀ h20, h20 = wr h19 v0 9 a105 → (inI (h20 0 0 + 1)) ∧ (1 ≤ b.1 - 1 - 1 - 1 - 1 - 1 - 1 - 1 - 1 - 1 - 1) ∧ (12 ≤ b.2 - 24 - 8 - 8 - 8 - 4 - 4 - 4 - 112 - 4 - 4) ∧ ∀ a116, a116 = h20 0 0 + 1 → ∀ h21, h21 = nw h20 20 12 → ∀ h22, h22 = wr h21 v0 10 a116 → (inI (h22 0 0 + 1)) ∧ (1 ≤ b.1 - 1 - 1 - 1 - 1 - 1 - 1 - 1 - 1 - 1 - 1 - 1) ∧ (4 ≤ b.2 - 24 - 8 - 8 - 8 - 4 - 4 - 4 - 112 - 4 - 4 - 12) ∧ ∀ a127, a127 = h22 0 0 + 1 → ∀ h23, h23 = nw h22 20 4 → ∀ h24, h24 = wr h23 v0 11 a127 → (inI (h24 0 0 + 1)) ∧ (1 ≤ b.1 - 1 - 1 - 1 - 1 - 1 - 1 - 1 - 1 - 1 - 1 - 1 - 1) ∧ (4 ≤ b.2 - 24 - 8 - 8 - 8 - 4 - 4 - 4 - 112 - 4 - 4 - 12 - 4) ∧ ∀ a138, a138 = h24 0 0 + 1 → ∀ h25, h25 = nw h24 20 4 → ∀ h26, h26 = wr h25 v0 12 a138 → (inI (h26 0 0 + 1)) ∧ (1 ≤ b.1 - 1 - 1 - 1 - 1 - 1 - 1 - 1 - 1 - 1 - 1 - 1 - 1 - 1) ∧ (4 ≤ b.2 - 24 - 8 - 8 - 8 - 4 - 4 - 4 - 112 - 4 - 4 - 12 - 4 - 4) ∧ ∀ a149, a149 = h26 0 0 + 1 → ∀ h27, h27 = nw h26 21 4 → ∀ h28, h28 = wr h27 v0 13 a149 → (inI (h28 0 0 + 1)) ∧ (1 ≤ b.1 - 1 - 1 - 1 - 1 - 1 - 1 - 1 - 1 - 1 - 1 - 1 - 1 - 1 - 1) ∧ (4 ≤ b.2 - 24 - 8 - 8 - 8 - 4 - 4 - 4 - 112 - 4 - 4 - 12 - 4 - 4 - 4) ∧ ∀ a160, a160 = h28 0 0 + 1 → ∀ h29, h29 = nw h28 20 4 → ∀ h30, h30 = wr h29 v0 14 a160 → (inI (h30 0 0 + 1)) ∧ (1 ≤ b.1 - 1 - 1 - 1 - 1 - 1 - 1 - 1 - 1 - 1 - 1 - 1 - 1 - 1 - 1 - 1) ∧ (16 ≤ b.2 - 24 - 8 - 8 - 8 - 4 - 4 - 4 - 112 - 4 - 4 - 12 - 4 - 4 - 4 - 4) ∧ ∀ a171, a171 = h30 0 0 + 1 → ∀ h31, h31 = nw h30 20 16 → ∀ h32, h32 = wr h31 v0 15 a171 → (inI (h32 0 0 + 1)) ∧ (1 ≤ b.1 - 1 - 1 - 1 - 1 - 1 - 1 - 1 - 1 - 1 - 1 - 1 - 1 - 1 - 1 - 1 - 1) ∧ (4 ≤ b.2 - 24 - 8 - 8 - 8 - 4 - 4 - 4 - 112 - 4 - 4 - 12 - 4 - 4 - 4 - 4 - 16) ∧ ∀ a182, a182 = h32 0 0 + 1 → ∀ h33, h33 = nw h32 20 4 → ∀ h34, h34 = wr h33 v0 16 a182 → (inI (h34 0 0 + 1)) ∧ (1 ≤ b.1 - 1 - 1 - 1 - 1 - 1 - 1 - 1 - 1 - 1 - 1 - 1 - 1 - 1 - 1 - 1 - 1 - 1) ∧ (4 ≤ b.2 - 24 - 8 - 8 - 8 - 4 - 4 - 4 - 112 - 4 - 4 - 12 - 4 - 4 - 4 - 4 - 16 - 4) ∧ ∀ a193, a193 = h34 0 0 + 1 → ∀ h35, h35 = nw h34 20 4 → ∀ h36, h36 = wr h35 v0 17 a193 → (inI (h36 0 0 + 1)) ∧ (1 ≤ b.1 - 1 - 1 - 1 - 1 - 1 - 1 - 1 - 1 - 1 - 1 - 1 - 1 - 1 - 1 - 1 - 1 - 1 - 1) ∧ (2 ≤ b.2 - 24 - 8 - 8 - 8 - 4 - 4 - 4 - 112 - 4 - 4 - 12 - 4 - 4 - 4 - 4 - 16 - 4 - 4) ∧ ∀ a204, a204 = h36 0 0 + 1 → ∀ h37, h37 = nw h36 20 2 → ∀ h38, h38 = wr h37 a204 0 1 → ∀ h39, h39 = wr h38 a204 1 1 → ∀ h40, h40 = wr h39 v0 18 a204 → (inI (h40 0 0 + 1)) ∧ (1 ≤ b.1 - 1 - 1 - 1 - 1 - 1 - 1 - 1 - 1 - 1 - 1 - 1 - 1 - 1 - 1 - 1 - 1 - 1 - 1 - 1) ∧ (264 ≤ b.2 - 24 - 8 - 8 - 8 - 4 - 4 - 4 - 112 - 4 - 4 - 12 - 4 - 4 - 4 - 4 - 16 - 4 - 4 - 2) ∧ ∀ a220, a220 = h40 0 0 + 1 → ∀ h41, h41 = nw h40 20 264 → ∀ h42, h42 = wr h41 v0 20 a220 → (inI (h42 0 0 + 1)) ∧ (1 ≤ b.1 - 1 - 1 - 1 - 1 - 1 - 1 - 1 - 1 - 1 - 1 - 1 - 1 - 1 - 1 - 1 - 1 - 1 - 1 - 1 - 1) ∧ (6000 ≤ b.2 - 24 - 8 - 8 - 8 - 4 - 4 - 4 - 112 - 4 - 4 - 12 - 4 - 4 - 4 - 4 - 16 - 4 - 4 - 2 - 264) ∧ ∀ a231, a231 = h42 0 0 + 1 → ∀ h43, h43 = nw h42 20 6000 → ∀ h44, h44 = wr h43 v0 23 a231 → (inI (h44 0 0 + 1)) ∧ (1 ≤ b.1 - 1 - 1 - 1 - 1 - 1 - 1 - 1 - 1 - 1 - 1 - 1 - 1 - 1 - 1 - 1 - 1 - 1 - 1 - 1 - 1 - 1) ∧ (2 ≤ b.2 - 24 - 8 - 8 - 8 - 4 - 4 - 4 - 112 - 4 - 4 - 12 - 4 - 4 - 4 - 4 - 16 - 4 - 4 - 2 - 264 - 6000) ∧ ∀ a242, a242 = h44 0 0 + 1 → ∀ h45, h45 = nw h44 20 2 → ∀ h46, h46 = wr h45 v0 24 a242 → (inI (h46 0 0 + 1)) ∧ (1 ≤ b.1 - 1 - 1 - 1 - 1 - 1 - 1 - 1 - 1 - 1 - 1 - 1 - 1 - 1 - 1 - 1 - 1 - 1 - 1 - 1 - 1 - 1 - 1) ∧ (2 ≤ b.2 - 24 - 8 - 8 - 8 - 4 - 4 - 4 - 112 - 4 - 4 - 12 - 4 - 4 - 4 - 4 - 16 - 4 - 4 - 2 - 264 - 6000 - 2) ∧ ∀ a253, a253 = h46 0 0 + 1 → ∀ h47, h47 = nw h46 20 2 → ∀ h48, h48 = wr h47 v0 25 a253 → (inI (h48 0 0 + 1)) ∧ (1 ≤ b.1 - 1 - 1 - 1 - 1 - 1 - 1 - 1 - 1 - 1 - 1 - 1 - 1 - 1 - 1 - 1 - 1 - 1 - 1 - 1 - 1 - 1 - 1 - 1) ∧ (6 ≤ b.2 - 24 - 8 - 8 - 8 - 4 - 4 - 4 - 112 - 4 - 4 - 12 - 4 - 4 - 4 - 4 - 16 - 4 - 4 - 2 - 264 - 6000 - 2 - 2) ∧ ∀ a264, a264 = h48 0 0 + 1 → ∀ h49, h49 = nw h48 20 6 → ∀ h50, h50 = wr h49 v0 26 a264 → (inI (h50 0 0 + 1)) ∧ (1 ≤ b.1 - 1 - 1 - 1 - 1 - 1 - 1 - 1 - 1 - 1 - 1 - 1 - 1 - 1 - 1 - 1 - 1 - 1 - 1 - 1 - 1 - 1 - 1 - 1 - 1) ∧ (200 ≤ b.2 - 24 - 8 - 8 - 8 - 4 - 4 - 4 - 112 - 4 - 4 - 12 - 4 - 4 - 4 - 4 - 16 - 4 - 4 - 2 - 264 - 6000 - 2 - 2 - 6) ∧ ∀ a275, a275 = h50 0 0 + 1 → ∀ h51, h51 = nw h50 20 200 → ∀ h52, h52 = wr h51 v0 30 a275 → (inI (h52 0 0 + 1)) ∧ (1 ≤ b.1 - 1 - 1 - 1 - 1 - 1 - 1 - 1 - 1 - 1 - 1 - 1 - 1 - 1 - 1 - 1 - 1 - 1 - 1 - 1 - 1 - 1 - 1 - 1 - 1 - 1) ∧ (5 ≤ b.2 - 24 - 8 - 8 - 8 - 4 - 4 - 4 - 112 - 4 - 4 - 12 - 4 - 4 - 4 - 4 - 16 - 4 - 4 - 2 - 264 - 6000 - 2 - 2 - 6 - 200) ∧ ∀ a286, a286 = h52 0 0 + 1 → ∀ h53, h53 = nw h52 20 5 → ∀ h54, h54 = wr h53 v0 36 a286 → (inI (h54 0 0 + 1)) ∧ (1 ≤ b.1 - 1 - 1 - 1 - 1 - 1 - 1 - 1 - 1 - 1 - 1 - 1 - 1 - 1 - 1 - 1 - 1 - 1 - 1 - 1 - 1 - 1 - 1 - 1 - 1 - 1 - 1) ∧ (30 ≤ b.2 - 24 - 8 - 8 - 8 - 4 - 4 - 4 - 112 - 4 - 4 - 12 - 4 - 4 - 4 - 4 - 16 - 4 - 4 - 2 - 264 - 6000 - 2 - 2 - 6 - 200 - 5) ∧ ∀ a297, a297 = h54 0 0 + 1 → ∀ h55, h55 = nw h54 20 30 → ∀ h56, h56 = wr h55 a297 0 97 → ∀ h57, h57 = wr h56 a297 1 108 → ∀ h58, h58 = wr h57 a297 2 108 → ∀ h59, h59 = wr h58 a297 3 0 → ∀ h60, h60 = wr h59 a297 4 0 → ∀ h61, h61 = wr h60 a297 5 107 → ∀ h62, h62 = wr h61 a297 6 101 → ∀ h63, h63 = wr h62 a297 7 121 → ∀ h64, h64 = wr h63 a297 8 0 → ∀ h65, h65 = wr h64 a297 9 0 → ∀ h66, h66 = wr h65 a297 10 99 → ∀ h67, h67 = wr h66 a297 11 101 → ∀ h68, h68 = wr h67 a297 12 108 → ∀ h69, h69 = wr h68 a297 13 108 → ∀ h70, h70 = wr h69 a297 14 0 → ∀ h71, h71 = wr h70 a297 15 100 → ∀ h72, h72 = wr h71 a297 16 101 → ∀ h73, h73 = wr h72 a297 17 108 → ∀ h74, h74 = wr h73 a297 18 97 → ∀ h75, h75 = wr h74 a297 19 121 → ∀ h76, h76 = wr h75 a297 20 97 → ∀ h77, h77 = wr h76 a297 21 105 → ∀ h78, h78 = wr h77 a297 22 109 → ∀ h79, h79 = wr h78 a297 23 0 → ∀ h80, h80 = wr h79 a297 24 0 → ∀ h81, h81 = wr h80 a297 25 106 → ∀ h82, h82 = wr h81 a297 26 111 → ∀ h83, h83 = wr h82 a297 27 105 → ∀ h84, h84 = wr h83 a297 28 110 → ∀ h85, h85 = wr h84 a297 29 0 → ∀ h86, h86 = wr h85 v0 37 a297 → (inI (h86 0 0 + 1)) ∧ (1 ≤ b.1 - 1 - 1 - 1 - 1 - 1 - 1 - 1 - 1 - 1 - 1 - 1 - 1 - 1 - 1 - 1 - 1 - 1 - 1 - 1 - 1 - 1 - 1 - 1 - 1 - 1 - 1 - 1) ∧ (11 ≤ b.2 - 24 - 8 - 8 - 8 - 4 - 4 - 4 - 112 - 4 - 4 - 12 - 4 - 4 - 4 - 4 - 16 - 4 - 4 - 2 - 264 - 6000 - 2 - 2 - 6 - 200 - 5 - 30) ∧ ∀ a397, a397 = h86 0 0 + 1 → ∀ h87, h87 = nw h86 20 11 → ∀ h88, h88 = wr h87 v0 38 a397 → Q none h88) : AW G mm_X10_init b 0 [(0, vR v0)] [] h Q := by
  refine aw_aload_n 0 dX10_init_0 rfl rfl ?_
  obtain ⟨o1, k⟩ := k
  refine aw_use (fun _ _ oz2 => ?_)
  refine aw_obj lo_X10_1 dX10_init_1 (nz_s oz2 o1 (by decide)) ⟨by decide, Nat.le_of_ble_eq_true rfl⟩ ?_
  refine aw_aload_n 0 dX10_init_4 rfl rfl ?_
  refine aw_bipush dX10_init_5 ⟨by decide, by decide⟩ (by decide) ?_
  refine aw_use (fun _ _ oh3 => ?_)
  obtain ⟨o4, k⟩ := k
  obtain ⟨o5, k⟩ := k
  obtain ⟨o6, k⟩ := k
  refine aw_newa na_int dX10_init_7 (by decide) (by decide) o4 o5 o6 ?_
  refine aw_hq (fun a7 e8 h1 e9 => ?_)
  have k := k a7 e8 h1 e9
  have q10 := sh_f e9 e8
  have q11 := sh_n e9 oh3 o1 (by decide)
  refine aw_putR dX10_init_9 fl_X10_7 (fun q hq _ => by cases hq; exact ⟨rfl, rfl⟩) rfl rfl q11 ?_
  refine aw_hp (fun h2 e12 => ?_)
  have k := k h2 e12
  refine aw_aload_n 0 dX10_init_12 rfl rfl ?_
  refine aw_bipush dX10_init_13 ⟨by decide, by decide⟩ (by decide) ?_
  refine aw_use (fun _ _ oh13 => ?_)
  obtain ⟨o14, k⟩ := k
  obtain ⟨o15, k⟩ := k
  obtain ⟨o16, k⟩ := k
  refine aw_newa na_int dX10_init_15 (by decide) (by decide) o14 o15 o16 ?_
  refine aw_hq (fun a17 e18 h3 e19 => ?_)
  have k := k a17 e18 h3 e19
  have q20 := sh_f e19 e18
  have q21 := sh_w e12 (by decide) q11
  have q22 := sh_n e19 oh13 q21 (by decide)
  refine aw_putR dX10_init_17 fl_X10_13 (fun q hq _ => by cases hq; exact ⟨rfl, rfl⟩) rfl rfl q22 ?_
  refine aw_hp (fun h4 e23 => ?_)
  have k := k h4 e23
  refine aw_aload_n 0 dX10_init_20 rfl rfl ?_
  refine aw_bipush dX10_init_21 ⟨by decide, by decide⟩ (by decide) ?_
  refine aw_use (fun _ _ oh24 => ?_)
  obtain ⟨o25, k⟩ := k
  obtain ⟨o26, k⟩ := k
  obtain ⟨o27, k⟩ := k
  refine aw_newa na_int dX10_init_23 (by decide) (by decide) o25 o26 o27 ?_
  refine aw_hq (fun a28 e29 h5 e30 => ?_)
  have k := k a28 e29 h5 e30
  have q31 := sh_f e30 e29
  have q32 := sh_w e23 (by decide) q22
  have q33 := sh_n e30 oh24 q32 (by decide)
  refine aw_putR dX10_init_25 fl_X10_16 (fun q hq _ => by cases hq; exact ⟨rfl, rfl⟩) rfl rfl q33 ?_
  refine aw_hp (fun h6 e34 => ?_)
  have k := k h6 e34
  refine aw_aload_n 0 dX10_init_28 rfl rfl ?_
  refine aw_bipush dX10_init_29 ⟨by decide, by decide⟩ (by decide) ?_
  refine aw_use (fun _ _ oh35 => ?_)
  obtain ⟨o36, k⟩ := k
  obtain ⟨o37, k⟩ := k
  obtain ⟨o38, k⟩ := k
  refine aw_newa na_int dX10_init_31 (by decide) (by decide) o36 o37 o38 ?_
  refine aw_hq (fun a39 e40 h7 e41 => ?_)
  have k := k a39 e40 h7 e41
  have q42 := sh_f e41 e40
  have q43 := sh_w e34 (by decide) q33
  have q44 := sh_n e41 oh35 q43 (by decide)
  refine aw_putR dX10_init_33 fl_X10_19 (fun q hq _ => by cases hq; exact ⟨rfl, rfl⟩) rfl rfl q44 ?_
  refine aw_hp (fun h8 e45 => ?_)
  have k := k h8 e45
  refine aw_aload_n 0 dX10_init_36 rfl rfl ?_
  refine aw_iconst dX10_init_37 ⟨by decide, by decide⟩ ?_
  refine aw_use (fun _ _ oh46 => ?_)
  obtain ⟨o47, k⟩ := k
  obtain ⟨o48, k⟩ := k
  obtain ⟨o49, k⟩ := k
  refine aw_newa na_int dX10_init_38 (by decide) (by decide) o47 o48 o49 ?_
  refine aw_hq (fun a50 e51 h9 e52 => ?_)
  have k := k a50 e51 h9 e52
  have q53 := sh_f e52 e51
  have q54 := sh_w e45 (by decide) q44
  have q55 := sh_n e52 oh46 q54 (by decide)
  refine aw_putR dX10_init_40 fl_X10_22 (fun q hq _ => by cases hq; exact ⟨rfl, rfl⟩) rfl rfl q55 ?_
  refine aw_hp (fun h10 e56 => ?_)
  have k := k h10 e56
  refine aw_aload_n 0 dX10_init_43 rfl rfl ?_
  refine aw_iconst dX10_init_44 ⟨by decide, by decide⟩ ?_
  refine aw_use (fun _ _ oh57 => ?_)
  obtain ⟨o58, k⟩ := k
  obtain ⟨o59, k⟩ := k
  obtain ⟨o60, k⟩ := k
  refine aw_newa na_int dX10_init_45 (by decide) (by decide) o58 o59 o60 ?_
  refine aw_hq (fun a61 e62 h11 e63 => ?_)
  have k := k a61 e62 h11 e63
  have q64 := sh_f e63 e62
  have q65 := sh_w e56 (by decide) q55
  have q66 := sh_n e63 oh57 q65 (by decide)
  refine aw_putR dX10_init_47 fl_X10_25 (fun q hq _ => by cases hq; exact ⟨rfl, rfl⟩) rfl rfl q66 ?_
  refine aw_hp (fun h12 e67 => ?_)
  have k := k h12 e67
  refine aw_aload_n 0 dX10_init_50 rfl rfl ?_
  refine aw_iconst dX10_init_51 ⟨by decide, by decide⟩ ?_
  refine aw_use (fun _ _ oh68 => ?_)
  obtain ⟨o69, k⟩ := k
  obtain ⟨o70, k⟩ := k
  obtain ⟨o71, k⟩ := k
  refine aw_newa na_int dX10_init_52 (by decide) (by decide) o69 o70 o71 ?_
  refine aw_hq (fun a72 e73 h13 e74 => ?_)
  have k := k a72 e73 h13 e74
  have q75 := sh_f e74 e73
  have q76 := sh_w e67 (by decide) q66
  have q77 := sh_n e74 oh68 q76 (by decide)
  refine aw_putR dX10_init_54 fl_X10_28 (fun q hq _ => by cases hq; exact ⟨rfl, rfl⟩) rfl rfl q77 ?_
  refine aw_hp (fun h14 e78 => ?_)
  have k := k h14 e78
  refine aw_aload_n 0 dX10_init_57 rfl rfl ?_
  refine aw_bipush dX10_init_58 ⟨by decide, by decide⟩ (by decide) ?_
  refine aw_use (fun _ _ oh79 => ?_)
  obtain ⟨o80, k⟩ := k
  obtain ⟨o81, k⟩ := k
  obtain ⟨o82, k⟩ := k
  refine aw_newa na_int dX10_init_60 (by decide) (by decide) o80 o81 o82 ?_
  refine aw_hq (fun a83 e84 h15 e85 => ?_)
  have k := k a83 e84 h15 e85
  have q86 := sh_f e85 e84
  have q87 := sh_w e78 (by decide) q77
  have q88 := sh_n e85 oh79 q87 (by decide)
  refine aw_putR dX10_init_62 fl_X10_31 (fun q hq _ => by cases hq; exact ⟨rfl, rfl⟩) rfl rfl q88 ?_
  refine aw_hp (fun h16 e89 => ?_)
  have k := k h16 e89
  refine aw_aload_n 0 dX10_init_65 rfl rfl ?_
  refine aw_iconst dX10_init_66 ⟨by decide, by decide⟩ ?_
  refine aw_use (fun _ _ oh90 => ?_)
  obtain ⟨o91, k⟩ := k
  obtain ⟨o92, k⟩ := k
  obtain ⟨o93, k⟩ := k
  refine aw_newa na_int dX10_init_67 (by decide) (by decide) o91 o92 o93 ?_
  refine aw_hq (fun a94 e95 h17 e96 => ?_)
  have k := k a94 e95 h17 e96
  have q97 := sh_f e96 e95
  have q98 := sh_w e89 (by decide) q88
  have q99 := sh_n e96 oh90 q98 (by decide)
  refine aw_putR dX10_init_69 fl_X10_34 (fun q hq _ => by cases hq; exact ⟨rfl, rfl⟩) rfl rfl q99 ?_
  refine aw_hp (fun h18 e100 => ?_)
  have k := k h18 e100
  refine aw_aload_n 0 dX10_init_72 rfl rfl ?_
  refine aw_iconst dX10_init_73 ⟨by decide, by decide⟩ ?_
  refine aw_use (fun _ _ oh101 => ?_)
  obtain ⟨o102, k⟩ := k
  obtain ⟨o103, k⟩ := k
  obtain ⟨o104, k⟩ := k
  refine aw_newa na_int dX10_init_74 (by decide) (by decide) o102 o103 o104 ?_
  refine aw_hq (fun a105 e106 h19 e107 => ?_)
  have k := k a105 e106 h19 e107
  have q108 := sh_f e107 e106
  have q109 := sh_w e100 (by decide) q99
  have q110 := sh_n e107 oh101 q109 (by decide)
  refine aw_putR dX10_init_76 fl_X10_37 (fun q hq _ => by cases hq; exact ⟨rfl, rfl⟩) rfl rfl q110 ?_
  refine aw_hp (fun h20 e111 => ?_)
  have k := k h20 e111
  refine aw_aload_n 0 dX10_init_79 rfl rfl ?_
  refine aw_bipush dX10_init_80 ⟨by decide, by decide⟩ (by decide) ?_
  refine aw_use (fun _ _ oh112 => ?_)
  obtain ⟨o113, k⟩ := k
  obtain ⟨o114, k⟩ := k
  obtain ⟨o115, k⟩ := k
  refine aw_newa na_int dX10_init_82 (by decide) (by decide) o113 o114 o115 ?_
  refine aw_hq (fun a116 e117 h21 e118 => ?_)
  have k := k a116 e117 h21 e118
  have q119 := sh_f e118 e117
  have q120 := sh_w e111 (by decide) q110
  have q121 := sh_n e118 oh112 q120 (by decide)
  refine aw_putR dX10_init_84 fl_X10_40 (fun q hq _ => by cases hq; exact ⟨rfl, rfl⟩) rfl rfl q121 ?_
  refine aw_hp (fun h22 e122 => ?_)
  have k := k h22 e122
  refine aw_aload_n 0 dX10_init_87 rfl rfl ?_
  refine aw_iconst dX10_init_88 ⟨by decide, by decide⟩ ?_
  refine aw_use (fun _ _ oh123 => ?_)
  obtain ⟨o124, k⟩ := k
  obtain ⟨o125, k⟩ := k
  obtain ⟨o126, k⟩ := k
  refine aw_newa na_int dX10_init_89 (by decide) (by decide) o124 o125 o126 ?_
  refine aw_hq (fun a127 e128 h23 e129 => ?_)
  have k := k a127 e128 h23 e129
  have q130 := sh_f e129 e128
  have q131 := sh_w e122 (by decide) q121
  have q132 := sh_n e129 oh123 q131 (by decide)
  refine aw_putR dX10_init_91 fl_X10_43 (fun q hq _ => by cases hq; exact ⟨rfl, rfl⟩) rfl rfl q132 ?_
  refine aw_hp (fun h24 e133 => ?_)
  have k := k h24 e133
  refine aw_aload_n 0 dX10_init_94 rfl rfl ?_
  refine aw_iconst dX10_init_95 ⟨by decide, by decide⟩ ?_
  refine aw_use (fun _ _ oh134 => ?_)
  obtain ⟨o135, k⟩ := k
  obtain ⟨o136, k⟩ := k
  obtain ⟨o137, k⟩ := k
  refine aw_newa na_int dX10_init_96 (by decide) (by decide) o135 o136 o137 ?_
  refine aw_hq (fun a138 e139 h25 e140 => ?_)
  have k := k a138 e139 h25 e140
  have q141 := sh_f e140 e139
  have q142 := sh_w e133 (by decide) q132
  have q143 := sh_n e140 oh134 q142 (by decide)
  refine aw_putR dX10_init_98 fl_X10_46 (fun q hq _ => by cases hq; exact ⟨rfl, rfl⟩) rfl rfl q143 ?_
  refine aw_hp (fun h26 e144 => ?_)
  have k := k h26 e144
  refine aw_aload_n 0 dX10_init_101 rfl rfl ?_
  refine aw_iconst dX10_init_102 ⟨by decide, by decide⟩ ?_
  refine aw_use (fun _ _ oh145 => ?_)
  obtain ⟨o146, k⟩ := k
  obtain ⟨o147, k⟩ := k
  obtain ⟨o148, k⟩ := k
  refine aw_newa na_boolean dX10_init_103 (by decide) (by decide) o146 o147 o148 ?_
  refine aw_hq (fun a149 e150 h27 e151 => ?_)
  have k := k a149 e150 h27 e151
  have q152 := sh_f e151 e150
  have q153 := sh_w e144 (by decide) q143
  have q154 := sh_n e151 oh145 q153 (by decide)
  refine aw_putR dX10_init_105 fl_X10_49 (fun q hq _ => by cases hq; exact ⟨rfl, rfl⟩) rfl rfl q154 ?_
  refine aw_hp (fun h28 e155 => ?_)
  have k := k h28 e155
  refine aw_aload_n 0 dX10_init_108 rfl rfl ?_
  refine aw_iconst dX10_init_109 ⟨by decide, by decide⟩ ?_
  refine aw_use (fun _ _ oh156 => ?_)
  obtain ⟨o157, k⟩ := k
  obtain ⟨o158, k⟩ := k
  obtain ⟨o159, k⟩ := k
  refine aw_newa na_int dX10_init_110 (by decide) (by decide) o157 o158 o159 ?_
  refine aw_hq (fun a160 e161 h29 e162 => ?_)
  have k := k a160 e161 h29 e162
  have q163 := sh_f e162 e161
  have q164 := sh_w e155 (by decide) q154
  have q165 := sh_n e162 oh156 q164 (by decide)
  refine aw_putR dX10_init_112 fl_X10_53 (fun q hq _ => by cases hq; exact ⟨rfl, rfl⟩) rfl rfl q165 ?_
  refine aw_hp (fun h30 e166 => ?_)
  have k := k h30 e166
  refine aw_aload_n 0 dX10_init_115 rfl rfl ?_
  refine aw_bipush dX10_init_116 ⟨by decide, by decide⟩ (by decide) ?_
  refine aw_use (fun _ _ oh167 => ?_)
  obtain ⟨o168, k⟩ := k
  obtain ⟨o169, k⟩ := k
  obtain ⟨o170, k⟩ := k
  refine aw_newa na_int dX10_init_118 (by decide) (by decide) o168 o169 o170 ?_
  refine aw_hq (fun a171 e172 h31 e173 => ?_)
  have k := k a171 e172 h31 e173
  have q174 := sh_f e173 e172
  have q175 := sh_w e166 (by decide) q165
  have q176 := sh_n e173 oh167 q175 (by decide)
  refine aw_putR dX10_init_120 fl_X10_56 (fun q hq _ => by cases hq; exact ⟨rfl, rfl⟩) rfl rfl q176 ?_
  refine aw_hp (fun h32 e177 => ?_)
  have k := k h32 e177
  refine aw_aload_n 0 dX10_init_123 rfl rfl ?_
  refine aw_iconst dX10_init_124 ⟨by decide, by decide⟩ ?_
  refine aw_use (fun _ _ oh178 => ?_)
  obtain ⟨o179, k⟩ := k
  obtain ⟨o180, k⟩ := k
  obtain ⟨o181, k⟩ := k
  refine aw_newa na_int dX10_init_125 (by decide) (by decide) o179 o180 o181 ?_
  refine aw_hq (fun a182 e183 h33 e184 => ?_)
  have k := k a182 e183 h33 e184
  have q185 := sh_f e184 e183
  have q186 := sh_w e177 (by decide) q176
  have q187 := sh_n e184 oh178 q186 (by decide)
  refine aw_putR dX10_init_127 fl_X10_59 (fun q hq _ => by cases hq; exact ⟨rfl, rfl⟩) rfl rfl q187 ?_
  refine aw_hp (fun h34 e188 => ?_)
  have k := k h34 e188
  refine aw_aload_n 0 dX10_init_130 rfl rfl ?_
  refine aw_iconst dX10_init_131 ⟨by decide, by decide⟩ ?_
  refine aw_use (fun _ _ oh189 => ?_)
  obtain ⟨o190, k⟩ := k
  obtain ⟨o191, k⟩ := k
  obtain ⟨o192, k⟩ := k
  refine aw_newa na_int dX10_init_132 (by decide) (by decide) o190 o191 o192 ?_
  refine aw_hq (fun a193 e194 h35 e195 => ?_)
  have k := k a193 e194 h35 e195
  have q196 := sh_f e195 e194
  have q197 := sh_w e188 (by decide) q187
  have q198 := sh_n e195 oh189 q197 (by decide)
  refine aw_putR dX10_init_134 fl_X10_62 (fun q hq _ => by cases hq; exact ⟨rfl, rfl⟩) rfl rfl q198 ?_
  refine aw_hp (fun h36 e199 => ?_)
  have k := k h36 e199
  refine aw_aload_n 0 dX10_init_137 rfl rfl ?_
  refine aw_iconst dX10_init_138 ⟨by decide, by decide⟩ ?_
  refine aw_use (fun _ _ oh200 => ?_)
  obtain ⟨o201, k⟩ := k
  obtain ⟨o202, k⟩ := k
  obtain ⟨o203, k⟩ := k
  refine aw_newa na_int dX10_init_139 (by decide) (by decide) o201 o202 o203 ?_
  refine aw_hq (fun a204 e205 h37 e206 => ?_)
  have k := k a204 e205 h37 e206
  have q207 := sh_f e206 e205
  refine aw_dup dX10_init_141 rfl ?_
  refine aw_iconst dX10_init_142 ⟨by decide, by decide⟩ ?_
  refine aw_iconst dX10_init_143 ⟨by decide, by decide⟩ ?_
  refine aw_iast dX10_init_144 q207 (by decide) (lt_l (ln_f e206 e205) (by decide)) ?_
  refine aw_hp (fun h38 e208 => ?_)
  have k := k h38 e208
  refine aw_dup dX10_init_145 rfl ?_
  refine aw_iconst dX10_init_146 ⟨by decide, by decide⟩ ?_
  refine aw_iconst dX10_init_147 ⟨by decide, by decide⟩ ?_
  have q209 := sh_w e208 (by decide) q207
  refine aw_iast dX10_init_148 q209 (by decide) (lt_l ((ln_w e208 a204 (by decide)).trans (ln_f e206 e205)) (by decide)) ?_
  refine aw_hp (fun h39 e210 => ?_)
  have k := k h39 e210
  have q211 := sh_w e199 (by decide) q198
  have q212 := sh_n e206 oh200 q211 (by decide)
  have q213 := sh_w e208 (by decide) q212
  have q214 := sh_w e210 (by decide) q213
  refine aw_putR dX10_init_149 fl_X10_65 (fun q hq _ => by cases hq; exact ⟨rfl, rfl⟩) rfl rfl q214 ?_
  refine aw_hp (fun h40 e215 => ?_)
  have k := k h40 e215
  refine aw_aload_n 0 dX10_init_152 rfl rfl ?_
  refine aw_sipush dX10_init_153 ⟨by decide, by decide⟩ (by decide) ?_
  refine aw_use (fun _ _ oh216 => ?_)
  obtain ⟨o217, k⟩ := k
  obtain ⟨o218, k⟩ := k
  obtain ⟨o219, k⟩ := k
  refine aw_newa na_int dX10_init_156 (by decide) (by decide) o217 o218 o219 ?_
  refine aw_hq (fun a220 e221 h41 e222 => ?_)
  have k := k a220 e221 h41 e222
  have q223 := sh_f e222 e221
  have q224 := sh_w e215 (by decide) q214
  have q225 := sh_n e222 oh216 q224 (by decide)
  refine aw_putR dX10_init_158 fl_X10_68 (fun q hq _ => by cases hq; exact ⟨rfl, rfl⟩) rfl rfl q225 ?_
  refine aw_hp (fun h42 e226 => ?_)
  have k := k h42 e226
  refine aw_aload_n 0 dX10_init_161 rfl rfl ?_
  refine aw_sipush dX10_init_162 ⟨by decide, by decide⟩ (by decide) ?_
  refine aw_use (fun _ _ oh227 => ?_)
  obtain ⟨o228, k⟩ := k
  obtain ⟨o229, k⟩ := k
  obtain ⟨o230, k⟩ := k
  refine aw_newa na_int dX10_init_165 (by decide) (by decide) o228 o229 o230 ?_
  refine aw_hq (fun a231 e232 h43 e233 => ?_)
  have k := k a231 e232 h43 e233
  have q234 := sh_f e233 e232
  have q235 := sh_w e226 (by decide) q225
  have q236 := sh_n e233 oh227 q235 (by decide)
  refine aw_putR dX10_init_167 fl_X10_71 (fun q hq _ => by cases hq; exact ⟨rfl, rfl⟩) rfl rfl q236 ?_
  refine aw_hp (fun h44 e237 => ?_)
  have k := k h44 e237
  refine aw_aload_n 0 dX10_init_170 rfl rfl ?_
  refine aw_iconst dX10_init_171 ⟨by decide, by decide⟩ ?_
  refine aw_use (fun _ _ oh238 => ?_)
  obtain ⟨o239, k⟩ := k
  obtain ⟨o240, k⟩ := k
  obtain ⟨o241, k⟩ := k
  refine aw_newa na_int dX10_init_172 (by decide) (by decide) o239 o240 o241 ?_
  refine aw_hq (fun a242 e243 h45 e244 => ?_)
  have k := k a242 e243 h45 e244
  have q245 := sh_f e244 e243
  have q246 := sh_w e237 (by decide) q236
  have q247 := sh_n e244 oh238 q246 (by decide)
  refine aw_putR dX10_init_174 fl_X10_74 (fun q hq _ => by cases hq; exact ⟨rfl, rfl⟩) rfl rfl q247 ?_
  refine aw_hp (fun h46 e248 => ?_)
  have k := k h46 e248
  refine aw_aload_n 0 dX10_init_177 rfl rfl ?_
  refine aw_iconst dX10_init_178 ⟨by decide, by decide⟩ ?_
  refine aw_use (fun _ _ oh249 => ?_)
  obtain ⟨o250, k⟩ := k
  obtain ⟨o251, k⟩ := k
  obtain ⟨o252, k⟩ := k
  refine aw_newa na_int dX10_init_179 (by decide) (by decide) o250 o251 o252 ?_
  refine aw_hq (fun a253 e254 h47 e255 => ?_)
  have k := k a253 e254 h47 e255
  have q256 := sh_f e255 e254
  have q257 := sh_w e248 (by decide) q247
  have q258 := sh_n e255 oh249 q257 (by decide)
  refine aw_putR dX10_init_181 fl_X10_77 (fun q hq _ => by cases hq; exact ⟨rfl, rfl⟩) rfl rfl q258 ?_
  refine aw_hp (fun h48 e259 => ?_)
  have k := k h48 e259
  refine aw_aload_n 0 dX10_init_184 rfl rfl ?_
  refine aw_bipush dX10_init_185 ⟨by decide, by decide⟩ (by decide) ?_
  refine aw_use (fun _ _ oh260 => ?_)
  obtain ⟨o261, k⟩ := k
  obtain ⟨o262, k⟩ := k
  obtain ⟨o263, k⟩ := k
  refine aw_newa na_int dX10_init_187 (by decide) (by decide) o261 o262 o263 ?_
  refine aw_hq (fun a264 e265 h49 e266 => ?_)
  have k := k a264 e265 h49 e266
  have q267 := sh_f e266 e265
  have q268 := sh_w e259 (by decide) q258
  have q269 := sh_n e266 oh260 q268 (by decide)
  refine aw_putR dX10_init_189 fl_X10_80 (fun q hq _ => by cases hq; exact ⟨rfl, rfl⟩) rfl rfl q269 ?_
  refine aw_hp (fun h50 e270 => ?_)
  have k := k h50 e270
  refine aw_aload_n 0 dX10_init_192 rfl rfl ?_
  refine aw_sipush dX10_init_193 ⟨by decide, by decide⟩ (by decide) ?_
  refine aw_use (fun _ _ oh271 => ?_)
  obtain ⟨o272, k⟩ := k
  obtain ⟨o273, k⟩ := k
  obtain ⟨o274, k⟩ := k
  refine aw_newa na_int dX10_init_196 (by decide) (by decide) o272 o273 o274 ?_
  refine aw_hq (fun a275 e276 h51 e277 => ?_)
  have k := k a275 e276 h51 e277
  have q278 := sh_f e277 e276
  have q279 := sh_w e270 (by decide) q269
  have q280 := sh_n e277 oh271 q279 (by decide)
  refine aw_putR dX10_init_198 fl_X10_83 (fun q hq _ => by cases hq; exact ⟨rfl, rfl⟩) rfl rfl q280 ?_
  refine aw_hp (fun h52 e281 => ?_)
  have k := k h52 e281
  refine aw_aload_n 0 dX10_init_201 rfl rfl ?_
  refine aw_iconst dX10_init_202 ⟨by decide, by decide⟩ ?_
  refine aw_use (fun _ _ oh282 => ?_)
  obtain ⟨o283, k⟩ := k
  obtain ⟨o284, k⟩ := k
  obtain ⟨o285, k⟩ := k
  refine aw_newa na_int dX10_init_203 (by decide) (by decide) o283 o284 o285 ?_
  refine aw_hq (fun a286 e287 h53 e288 => ?_)
  have k := k a286 e287 h53 e288
  have q289 := sh_f e288 e287
  have q290 := sh_w e281 (by decide) q280
  have q291 := sh_n e288 oh282 q290 (by decide)
  refine aw_putR dX10_init_205 fl_X10_86 (fun q hq _ => by cases hq; exact ⟨rfl, rfl⟩) rfl rfl q291 ?_
  refine aw_hp (fun h54 e292 => ?_)
  have k := k h54 e292
  refine aw_aload_n 0 dX10_init_208 rfl rfl ?_
  refine aw_bipush dX10_init_209 ⟨by decide, by decide⟩ (by decide) ?_
  refine aw_use (fun _ _ oh293 => ?_)
  obtain ⟨o294, k⟩ := k
  obtain ⟨o295, k⟩ := k
  obtain ⟨o296, k⟩ := k
  refine aw_newa na_int dX10_init_211 (by decide) (by decide) o294 o295 o296 ?_
  refine aw_hq (fun a297 e298 h55 e299 => ?_)
  have k := k a297 e298 h55 e299
  have q300 := sh_f e299 e298
  refine aw_dup dX10_init_213 rfl ?_
  refine aw_iconst dX10_init_214 ⟨by decide, by decide⟩ ?_
  refine aw_bipush dX10_init_215 ⟨by decide, by decide⟩ (by decide) ?_
  refine aw_iast dX10_init_217 q300 (by decide) (lt_l (ln_f e299 e298) (by decide)) ?_
  refine aw_hp (fun h56 e301 => ?_)
  have k := k h56 e301
  refine aw_dup dX10_init_218 rfl ?_
  refine aw_iconst dX10_init_219 ⟨by decide, by decide⟩ ?_
  refine aw_bipush dX10_init_220 ⟨by decide, by decide⟩ (by decide) ?_
  have q302 := sh_w e301 (by decide) q300
  refine aw_iast dX10_init_222 q302 (by decide) (lt_l ((ln_w e301 a297 (by decide)).trans (ln_f e299 e298)) (by decide)) ?_
  refine aw_hp (fun h57 e303 => ?_)
  have k := k h57 e303
  refine aw_dup dX10_init_223 rfl ?_
  refine aw_iconst dX10_init_224 ⟨by decide, by decide⟩ ?_
  refine aw_bipush dX10_init_225 ⟨by decide, by decide⟩ (by decide) ?_
  have q304 := sh_w e303 (by decide) q302
  refine aw_iast dX10_init_227 q304 (by decide) (lt_l ((ln_w e303 a297 (by decide)).trans ((ln_w e301 a297 (by decide)).trans (ln_f e299 e298))) (by decide)) ?_
  refine aw_hp (fun h58 e305 => ?_)
  have k := k h58 e305
  refine aw_dup dX10_init_228 rfl ?_
  refine aw_iconst dX10_init_229 ⟨by decide, by decide⟩ ?_
  refine aw_iconst dX10_init_230 ⟨by decide, by decide⟩ ?_
  have q306 := sh_w e305 (by decide) q304
  refine aw_iast dX10_init_231 q306 (by decide) (lt_l ((ln_w e305 a297 (by decide)).trans ((ln_w e303 a297 (by decide)).trans ((ln_w e301 a297 (by decide)).trans (ln_f e299 e298)))) (by decide)) ?_
  refine aw_hp (fun h59 e307 => ?_)
  have k := k h59 e307
  refine aw_dup dX10_init_232 rfl ?_
  refine aw_iconst dX10_init_233 ⟨by decide, by decide⟩ ?_
  refine aw_iconst dX10_init_234 ⟨by decide, by decide⟩ ?_
  have q308 := sh_w e307 (by decide) q306
  refine aw_iast dX10_init_235 q308 (by decide) (lt_l ((ln_w e307 a297 (by decide)).trans ((ln_w e305 a297 (by decide)).trans ((ln_w e303 a297 (by decide)).trans ((ln_w e301 a297 (by decide)).trans (ln_f e299 e298))))) (by decide)) ?_
  refine aw_hp (fun h60 e309 => ?_)
  have k := k h60 e309
  refine aw_dup dX10_init_236 rfl ?_
  refine aw_iconst dX10_init_237 ⟨by decide, by decide⟩ ?_
  refine aw_bipush dX10_init_238 ⟨by decide, by decide⟩ (by decide) ?_
  have q310 := sh_w e309 (by decide) q308
  refine aw_iast dX10_init_240 q310 (by decide) (lt_l ((ln_w e309 a297 (by decide)).trans ((ln_w e307 a297 (by decide)).trans ((ln_w e305 a297 (by decide)).trans ((ln_w e303 a297 (by decide)).trans ((ln_w e301 a297 (by decide)).trans (ln_f e299 e298)))))) (by decide)) ?_
  refine aw_hp (fun h61 e311 => ?_)
  have k := k h61 e311
  refine aw_dup dX10_init_241 rfl ?_
  refine aw_bipush dX10_init_242 ⟨by decide, by decide⟩ (by decide) ?_
  refine aw_bipush dX10_init_244 ⟨by decide, by decide⟩ (by decide) ?_
  have q312 := sh_w e311 (by decide) q310
  refine aw_iast dX10_init_246 q312 (by decide) (lt_l ((ln_w e311 a297 (by decide)).trans ((ln_w e309 a297 (by decide)).trans ((ln_w e307 a297 (by decide)).trans ((ln_w e305 a297 (by decide)).trans ((ln_w e303 a297 (by decide)).trans ((ln_w e301 a297 (by decide)).trans (ln_f e299 e298))))))) (by decide)) ?_
  refine aw_hp (fun h62 e313 => ?_)
  have k := k h62 e313
  refine aw_dup dX10_init_247 rfl ?_
  refine aw_bipush dX10_init_248 ⟨by decide, by decide⟩ (by decide) ?_
  refine aw_bipush dX10_init_250 ⟨by decide, by decide⟩ (by decide) ?_
  have q314 := sh_w e313 (by decide) q312
  refine aw_iast dX10_init_252 q314 (by decide) (lt_l ((ln_w e313 a297 (by decide)).trans ((ln_w e311 a297 (by decide)).trans ((ln_w e309 a297 (by decide)).trans ((ln_w e307 a297 (by decide)).trans ((ln_w e305 a297 (by decide)).trans ((ln_w e303 a297 (by decide)).trans ((ln_w e301 a297 (by decide)).trans (ln_f e299 e298)))))))) (by decide)) ?_
  refine aw_hp (fun h63 e315 => ?_)
  have k := k h63 e315
  refine aw_dup dX10_init_253 rfl ?_
  refine aw_bipush dX10_init_254 ⟨by decide, by decide⟩ (by decide) ?_
  refine aw_iconst dX10_init_256 ⟨by decide, by decide⟩ ?_
  have q316 := sh_w e315 (by decide) q314
  refine aw_iast dX10_init_257 q316 (by decide) (lt_l ((ln_w e315 a297 (by decide)).trans ((ln_w e313 a297 (by decide)).trans ((ln_w e311 a297 (by decide)).trans ((ln_w e309 a297 (by decide)).trans ((ln_w e307 a297 (by decide)).trans ((ln_w e305 a297 (by decide)).trans ((ln_w e303 a297 (by decide)).trans ((ln_w e301 a297 (by decide)).trans (ln_f e299 e298))))))))) (by decide)) ?_
  refine aw_hp (fun h64 e317 => ?_)
  have k := k h64 e317
  refine aw_dup dX10_init_258 rfl ?_
  refine aw_bipush dX10_init_259 ⟨by decide, by decide⟩ (by decide) ?_
  refine aw_iconst dX10_init_261 ⟨by decide, by decide⟩ ?_
  have q318 := sh_w e317 (by decide) q316
  refine aw_iast dX10_init_262 q318 (by decide) (lt_l ((ln_w e317 a297 (by decide)).trans ((ln_w e315 a297 (by decide)).trans ((ln_w e313 a297 (by decide)).trans ((ln_w e311 a297 (by decide)).trans ((ln_w e309 a297 (by decide)).trans ((ln_w e307 a297 (by decide)).trans ((ln_w e305 a297 (by decide)).trans ((ln_w e303 a297 (by decide)).trans ((ln_w e301 a297 (by decide)).trans (ln_f e299 e298)))))))))) (by decide)) ?_
  refine aw_hp (fun h65 e319 => ?_)
  have k := k h65 e319
  refine aw_dup dX10_init_263 rfl ?_
  refine aw_bipush dX10_init_264 ⟨by decide, by decide⟩ (by decide) ?_
  refine aw_bipush dX10_init_266 ⟨by decide, by decide⟩ (by decide) ?_
  have q320 := sh_w e319 (by decide) q318
  refine aw_iast dX10_init_268 q320 (by decide) (lt_l ((ln_w e319 a297 (by decide)).trans ((ln_w e317 a297 (by decide)).trans ((ln_w e315 a297 (by decide)).trans ((ln_w e313 a297 (by decide)).trans ((ln_w e311 a297 (by decide)).trans ((ln_w e309 a297 (by decide)).trans ((ln_w e307 a297 (by decide)).trans ((ln_w e305 a297 (by decide)).trans ((ln_w e303 a297 (by decide)).trans ((ln_w e301 a297 (by decide)).trans (ln_f e299 e298))))))))))) (by decide)) ?_
  refine aw_hp (fun h66 e321 => ?_)
  have k := k h66 e321
  refine aw_dup dX10_init_269 rfl ?_
  refine aw_bipush dX10_init_270 ⟨by decide, by decide⟩ (by decide) ?_
  refine aw_bipush dX10_init_272 ⟨by decide, by decide⟩ (by decide) ?_
  have q322 := sh_w e321 (by decide) q320
  refine aw_iast dX10_init_274 q322 (by decide) (lt_l ((ln_w e321 a297 (by decide)).trans ((ln_w e319 a297 (by decide)).trans ((ln_w e317 a297 (by decide)).trans ((ln_w e315 a297 (by decide)).trans ((ln_w e313 a297 (by decide)).trans ((ln_w e311 a297 (by decide)).trans ((ln_w e309 a297 (by decide)).trans ((ln_w e307 a297 (by decide)).trans ((ln_w e305 a297 (by decide)).trans ((ln_w e303 a297 (by decide)).trans ((ln_w e301 a297 (by decide)).trans (ln_f e299 e298)))))))))))) (by decide)) ?_
  refine aw_hp (fun h67 e323 => ?_)
  have k := k h67 e323
  refine aw_dup dX10_init_275 rfl ?_
  refine aw_bipush dX10_init_276 ⟨by decide, by decide⟩ (by decide) ?_
  refine aw_bipush dX10_init_278 ⟨by decide, by decide⟩ (by decide) ?_
  have q324 := sh_w e323 (by decide) q322
  refine aw_iast dX10_init_280 q324 (by decide) (lt_l ((ln_w e323 a297 (by decide)).trans ((ln_w e321 a297 (by decide)).trans ((ln_w e319 a297 (by decide)).trans ((ln_w e317 a297 (by decide)).trans ((ln_w e315 a297 (by decide)).trans ((ln_w e313 a297 (by decide)).trans ((ln_w e311 a297 (by decide)).trans ((ln_w e309 a297 (by decide)).trans ((ln_w e307 a297 (by decide)).trans ((ln_w e305 a297 (by decide)).trans ((ln_w e303 a297 (by decide)).trans ((ln_w e301 a297 (by decide)).trans (ln_f e299 e298))))))))))))) (by decide)) ?_
  refine aw_hp (fun h68 e325 => ?_)
  have k := k h68 e325
  refine aw_dup dX10_init_281 rfl ?_
  refine aw_bipush dX10_init_282 ⟨by decide, by decide⟩ (by decide) ?_
  refine aw_bipush dX10_init_284 ⟨by decide, by decide⟩ (by decide) ?_
  have q326 := sh_w e325 (by decide) q324
  refine aw_iast dX10_init_286 q326 (by decide) (lt_l ((ln_w e325 a297 (by decide)).trans ((ln_w e323 a297 (by decide)).trans ((ln_w e321 a297 (by decide)).trans ((ln_w e319 a297 (by decide)).trans ((ln_w e317 a297 (by decide)).trans ((ln_w e315 a297 (by decide)).trans ((ln_w e313 a297 (by decide)).trans ((ln_w e311 a297 (by decide)).trans ((ln_w e309 a297 (by decide)).trans ((ln_w e307 a297 (by decide)).trans ((ln_w e305 a297 (by decide)).trans ((ln_w e303 a297 (by decide)).trans ((ln_w e301 a297 (by decide)).trans (ln_f e299 e298)))))))))))))) (by decide)) ?_
  refine aw_hp (fun h69 e327 => ?_)
  have k := k h69 e327
  refine aw_dup dX10_init_287 rfl ?_
  refine aw_bipush dX10_init_288 ⟨by decide, by decide⟩ (by decide) ?_
  refine aw_iconst dX10_init_290 ⟨by decide, by decide⟩ ?_
  have q328 := sh_w e327 (by decide) q326
  refine aw_iast dX10_init_291 q328 (by decide) (lt_l ((ln_w e327 a297 (by decide)).trans ((ln_w e325 a297 (by decide)).trans ((ln_w e323 a297 (by decide)).trans ((ln_w e321 a297 (by decide)).trans ((ln_w e319 a297 (by decide)).trans ((ln_w e317 a297 (by decide)).trans ((ln_w e315 a297 (by decide)).trans ((ln_w e313 a297 (by decide)).trans ((ln_w e311 a297 (by decide)).trans ((ln_w e309 a297 (by decide)).trans ((ln_w e307 a297 (by decide)).trans ((ln_w e305 a297 (by decide)).trans ((ln_w e303 a297 (by decide)).trans ((ln_w e301 a297 (by decide)).trans (ln_f e299 e298))))))))))))))) (by decide)) ?_
  refine aw_hp (fun h70 e329 => ?_)
  have k := k h70 e329
  refine aw_dup dX10_init_292 rfl ?_
  refine aw_bipush dX10_init_293 ⟨by decide, by decide⟩ (by decide) ?_
  refine aw_bipush dX10_init_295 ⟨by decide, by decide⟩ (by decide) ?_
  have q330 := sh_w e329 (by decide) q328
  refine aw_iast dX10_init_297 q330 (by decide) (lt_l ((ln_w e329 a297 (by decide)).trans ((ln_w e327 a297 (by decide)).trans ((ln_w e325 a297 (by decide)).trans ((ln_w e323 a297 (by decide)).trans ((ln_w e321 a297 (by decide)).trans ((ln_w e319 a297 (by decide)).trans ((ln_w e317 a297 (by decide)).trans ((ln_w e315 a297 (by decide)).trans ((ln_w e313 a297 (by decide)).trans ((ln_w e311 a297 (by decide)).trans ((ln_w e309 a297 (by decide)).trans ((ln_w e307 a297 (by decide)).trans ((ln_w e305 a297 (by decide)).trans ((ln_w e303 a297 (by decide)).trans ((ln_w e301 a297 (by decide)).trans (ln_f e299 e298)))))))))))))))) (by decide)) ?_
  refine aw_hp (fun h71 e331 => ?_)
  have k := k h71 e331
  refine aw_dup dX10_init_298 rfl ?_
  refine aw_bipush dX10_init_299 ⟨by decide, by decide⟩ (by decide) ?_
  refine aw_bipush dX10_init_301 ⟨by decide, by decide⟩ (by decide) ?_
  have q332 := sh_w e331 (by decide) q330
  refine aw_iast dX10_init_303 q332 (by decide) (lt_l ((ln_w e331 a297 (by decide)).trans ((ln_w e329 a297 (by decide)).trans ((ln_w e327 a297 (by decide)).trans ((ln_w e325 a297 (by decide)).trans ((ln_w e323 a297 (by decide)).trans ((ln_w e321 a297 (by decide)).trans ((ln_w e319 a297 (by decide)).trans ((ln_w e317 a297 (by decide)).trans ((ln_w e315 a297 (by decide)).trans ((ln_w e313 a297 (by decide)).trans ((ln_w e311 a297 (by decide)).trans ((ln_w e309 a297 (by decide)).trans ((ln_w e307 a297 (by decide)).trans ((ln_w e305 a297 (by decide)).trans ((ln_w e303 a297 (by decide)).trans ((ln_w e301 a297 (by decide)).trans (ln_f e299 e298))))))))))))))))) (by decide)) ?_
  refine aw_hp (fun h72 e333 => ?_)
  have k := k h72 e333
  refine aw_dup dX10_init_304 rfl ?_
  refine aw_bipush dX10_init_305 ⟨by decide, by decide⟩ (by decide) ?_
  refine aw_bipush dX10_init_307 ⟨by decide, by decide⟩ (by decide) ?_
  have q334 := sh_w e333 (by decide) q332
  refine aw_iast dX10_init_309 q334 (by decide) (lt_l ((ln_w e333 a297 (by decide)).trans ((ln_w e331 a297 (by decide)).trans ((ln_w e329 a297 (by decide)).trans ((ln_w e327 a297 (by decide)).trans ((ln_w e325 a297 (by decide)).trans ((ln_w e323 a297 (by decide)).trans ((ln_w e321 a297 (by decide)).trans ((ln_w e319 a297 (by decide)).trans ((ln_w e317 a297 (by decide)).trans ((ln_w e315 a297 (by decide)).trans ((ln_w e313 a297 (by decide)).trans ((ln_w e311 a297 (by decide)).trans ((ln_w e309 a297 (by decide)).trans ((ln_w e307 a297 (by decide)).trans ((ln_w e305 a297 (by decide)).trans ((ln_w e303 a297 (by decide)).trans ((ln_w e301 a297 (by decide)).trans (ln_f e299 e298)))))))))))))))))) (by decide)) ?_
  refine aw_hp (fun h73 e335 => ?_)
  have k := k h73 e335
  refine aw_dup dX10_init_310 rfl ?_
  refine aw_bipush dX10_init_311 ⟨by decide, by decide⟩ (by decide) ?_
  refine aw_bipush dX10_init_313 ⟨by decide, by decide⟩ (by decide) ?_
  have q336 := sh_w e335 (by decide) q334
  refine aw_iast dX10_init_315 q336 (by decide) (lt_l ((ln_w e335 a297 (by decide)).trans ((ln_w e333 a297 (by decide)).trans ((ln_w e331 a297 (by decide)).trans ((ln_w e329 a297 (by decide)).trans ((ln_w e327 a297 (by decide)).trans ((ln_w e325 a297 (by decide)).trans ((ln_w e323 a297 (by decide)).trans ((ln_w e321 a297 (by decide)).trans ((ln_w e319 a297 (by decide)).trans ((ln_w e317 a297 (by decide)).trans ((ln_w e315 a297 (by decide)).trans ((ln_w e313 a297 (by decide)).trans ((ln_w e311 a297 (by decide)).trans ((ln_w e309 a297 (by decide)).trans ((ln_w e307 a297 (by decide)).trans ((ln_w e305 a297 (by decide)).trans ((ln_w e303 a297 (by decide)).trans ((ln_w e301 a297 (by decide)).trans (ln_f e299 e298))))))))))))))))))) (by decide)) ?_
  refine aw_hp (fun h74 e337 => ?_)
  have k := k h74 e337
  refine aw_dup dX10_init_316 rfl ?_
  refine aw_bipush dX10_init_317 ⟨by decide, by decide⟩ (by decide) ?_
  refine aw_bipush dX10_init_319 ⟨by decide, by decide⟩ (by decide) ?_
  have q338 := sh_w e337 (by decide) q336
  refine aw_iast dX10_init_321 q338 (by decide) (lt_l ((ln_w e337 a297 (by decide)).trans ((ln_w e335 a297 (by decide)).trans ((ln_w e333 a297 (by decide)).trans ((ln_w e331 a297 (by decide)).trans ((ln_w e329 a297 (by decide)).trans ((ln_w e327 a297 (by decide)).trans ((ln_w e325 a297 (by decide)).trans ((ln_w e323 a297 (by decide)).trans ((ln_w e321 a297 (by decide)).trans ((ln_w e319 a297 (by decide)).trans ((ln_w e317 a297 (by decide)).trans ((ln_w e315 a297 (by decide)).trans ((ln_w e313 a297 (by decide)).trans ((ln_w e311 a297 (by decide)).trans ((ln_w e309 a297 (by decide)).trans ((ln_w e307 a297 (by decide)).trans ((ln_w e305 a297 (by decide)).trans ((ln_w e303 a297 (by decide)).trans ((ln_w e301 a297 (by decide)).trans (ln_f e299 e298)))))))))))))))))))) (by decide)) ?_
  refine aw_hp (fun h75 e339 => ?_)
  have k := k h75 e339
  refine aw_dup dX10_init_322 rfl ?_
  refine aw_bipush dX10_init_323 ⟨by decide, by decide⟩ (by decide) ?_
  refine aw_bipush dX10_init_325 ⟨by decide, by decide⟩ (by decide) ?_
  have q340 := sh_w e339 (by decide) q338
  refine aw_iast dX10_init_327 q340 (by decide) (lt_l ((ln_w e339 a297 (by decide)).trans ((ln_w e337 a297 (by decide)).trans ((ln_w e335 a297 (by decide)).trans ((ln_w e333 a297 (by decide)).trans ((ln_w e331 a297 (by decide)).trans ((ln_w e329 a297 (by decide)).trans ((ln_w e327 a297 (by decide)).trans ((ln_w e325 a297 (by decide)).trans ((ln_w e323 a297 (by decide)).trans ((ln_w e321 a297 (by decide)).trans ((ln_w e319 a297 (by decide)).trans ((ln_w e317 a297 (by decide)).trans ((ln_w e315 a297 (by decide)).trans ((ln_w e313 a297 (by decide)).trans ((ln_w e311 a297 (by decide)).trans ((ln_w e309 a297 (by decide)).trans ((ln_w e307 a297 (by decide)).trans ((ln_w e305 a297 (by decide)).trans ((ln_w e303 a297 (by decide)).trans ((ln_w e301 a297 (by decide)).trans (ln_f e299 e298))))))))))))))))))))) (by decide)) ?_
  refine aw_hp (fun h76 e341 => ?_)
  have k := k h76 e341
  refine aw_dup dX10_init_328 rfl ?_
  refine aw_bipush dX10_init_329 ⟨by decide, by decide⟩ (by decide) ?_
  refine aw_bipush dX10_init_331 ⟨by decide, by decide⟩ (by decide) ?_
  have q342 := sh_w e341 (by decide) q340
  refine aw_iast dX10_init_333 q342 (by decide) (lt_l ((ln_w e341 a297 (by decide)).trans ((ln_w e339 a297 (by decide)).trans ((ln_w e337 a297 (by decide)).trans ((ln_w e335 a297 (by decide)).trans ((ln_w e333 a297 (by decide)).trans ((ln_w e331 a297 (by decide)).trans ((ln_w e329 a297 (by decide)).trans ((ln_w e327 a297 (by decide)).trans ((ln_w e325 a297 (by decide)).trans ((ln_w e323 a297 (by decide)).trans ((ln_w e321 a297 (by decide)).trans ((ln_w e319 a297 (by decide)).trans ((ln_w e317 a297 (by decide)).trans ((ln_w e315 a297 (by decide)).trans ((ln_w e313 a297 (by decide)).trans ((ln_w e311 a297 (by decide)).trans ((ln_w e309 a297 (by decide)).trans ((ln_w e307 a297 (by decide)).trans ((ln_w e305 a297 (by decide)).trans ((ln_w e303 a297 (by decide)).trans ((ln_w e301 a297 (by decide)).trans (ln_f e299 e298)))))))))))))))))))))) (by decide)) ?_
  refine aw_hp (fun h77 e343 => ?_)
  have k := k h77 e343
  refine aw_dup dX10_init_334 rfl ?_
  refine aw_bipush dX10_init_335 ⟨by decide, by decide⟩ (by decide) ?_
  refine aw_bipush dX10_init_337 ⟨by decide, by decide⟩ (by decide) ?_
  have q344 := sh_w e343 (by decide) q342
  refine aw_iast dX10_init_339 q344 (by decide) (lt_l ((ln_w e343 a297 (by decide)).trans ((ln_w e341 a297 (by decide)).trans ((ln_w e339 a297 (by decide)).trans ((ln_w e337 a297 (by decide)).trans ((ln_w e335 a297 (by decide)).trans ((ln_w e333 a297 (by decide)).trans ((ln_w e331 a297 (by decide)).trans ((ln_w e329 a297 (by decide)).trans ((ln_w e327 a297 (by decide)).trans ((ln_w e325 a297 (by decide)).trans ((ln_w e323 a297 (by decide)).trans ((ln_w e321 a297 (by decide)).trans ((ln_w e319 a297 (by decide)).trans ((ln_w e317 a297 (by decide)).trans ((ln_w e315 a297 (by decide)).trans ((ln_w e313 a297 (by decide)).trans ((ln_w e311 a297 (by decide)).trans ((ln_w e309 a297 (by decide)).trans ((ln_w e307 a297 (by decide)).trans ((ln_w e305 a297 (by decide)).trans ((ln_w e303 a297 (by decide)).trans ((ln_w e301 a297 (by decide)).trans (ln_f e299 e298))))))))))))))))))))))) (by decide)) ?_
  refine aw_hp (fun h78 e345 => ?_)
  have k := k h78 e345
  refine aw_dup dX10_init_340 rfl ?_
  refine aw_bipush dX10_init_341 ⟨by decide, by decide⟩ (by decide) ?_
  refine aw_iconst dX10_init_343 ⟨by decide, by decide⟩ ?_
  have q346 := sh_w e345 (by decide) q344
  refine aw_iast dX10_init_344 q346 (by decide) (lt_l ((ln_w e345 a297 (by decide)).trans ((ln_w e343 a297 (by decide)).trans ((ln_w e341 a297 (by decide)).trans ((ln_w e339 a297 (by decide)).trans ((ln_w e337 a297 (by decide)).trans ((ln_w e335 a297 (by decide)).trans ((ln_w e333 a297 (by decide)).trans ((ln_w e331 a297 (by decide)).trans ((ln_w e329 a297 (by decide)).trans ((ln_w e327 a297 (by decide)).trans ((ln_w e325 a297 (by decide)).trans ((ln_w e323 a297 (by decide)).trans ((ln_w e321 a297 (by decide)).trans ((ln_w e319 a297 (by decide)).trans ((ln_w e317 a297 (by decide)).trans ((ln_w e315 a297 (by decide)).trans ((ln_w e313 a297 (by decide)).trans ((ln_w e311 a297 (by decide)).trans ((ln_w e309 a297 (by decide)).trans ((ln_w e307 a297 (by decide)).trans ((ln_w e305 a297 (by decide)).trans ((ln_w e303 a297 (by decide)).trans ((ln_w e301 a297 (by decide)).trans (ln_f e299 e298)))))))))))))))))))))))) (by decide)) ?_
  refine aw_hp (fun h79 e347 => ?_)
  have k := k h79 e347
  refine aw_dup dX10_init_345 rfl ?_
  refine aw_bipush dX10_init_346 ⟨by decide, by decide⟩ (by decide) ?_
  refine aw_iconst dX10_init_348 ⟨by decide, by decide⟩ ?_
  have q348 := sh_w e347 (by decide) q346
  refine aw_iast dX10_init_349 q348 (by decide) (lt_l ((ln_w e347 a297 (by decide)).trans ((ln_w e345 a297 (by decide)).trans ((ln_w e343 a297 (by decide)).trans ((ln_w e341 a297 (by decide)).trans ((ln_w e339 a297 (by decide)).trans ((ln_w e337 a297 (by decide)).trans ((ln_w e335 a297 (by decide)).trans ((ln_w e333 a297 (by decide)).trans ((ln_w e331 a297 (by decide)).trans ((ln_w e329 a297 (by decide)).trans ((ln_w e327 a297 (by decide)).trans ((ln_w e325 a297 (by decide)).trans ((ln_w e323 a297 (by decide)).trans ((ln_w e321 a297 (by decide)).trans ((ln_w e319 a297 (by decide)).trans ((ln_w e317 a297 (by decide)).trans ((ln_w e315 a297 (by decide)).trans ((ln_w e313 a297 (by decide)).trans ((ln_w e311 a297 (by decide)).trans ((ln_w e309 a297 (by decide)).trans ((ln_w e307 a297 (by decide)).trans ((ln_w e305 a297 (by decide)).trans ((ln_w e303 a297 (by decide)).trans ((ln_w e301 a297 (by decide)).trans (ln_f e299 e298))))))))))))))))))))))))) (by decide)) ?_
  refine aw_hp (fun h80 e349 => ?_)
  have k := k h80 e349
  refine aw_dup dX10_init_350 rfl ?_
  refine aw_bipush dX10_init_351 ⟨by decide, by decide⟩ (by decide) ?_
  refine aw_bipush dX10_init_353 ⟨by decide, by decide⟩ (by decide) ?_
  have q350 := sh_w e349 (by decide) q348
  refine aw_iast dX10_init_355 q350 (by decide) (lt_l ((ln_w e349 a297 (by decide)).trans ((ln_w e347 a297 (by decide)).trans ((ln_w e345 a297 (by decide)).trans ((ln_w e343 a297 (by decide)).trans ((ln_w e341 a297 (by decide)).trans ((ln_w e339 a297 (by decide)).trans ((ln_w e337 a297 (by decide)).trans ((ln_w e335 a297 (by decide)).trans ((ln_w e333 a297 (by decide)).trans ((ln_w e331 a297 (by decide)).trans ((ln_w e329 a297 (by decide)).trans ((ln_w e327 a297 (by decide)).trans ((ln_w e325 a297 (by decide)).trans ((ln_w e323 a297 (by decide)).trans ((ln_w e321 a297 (by decide)).trans ((ln_w e319 a297 (by decide)).trans ((ln_w e317 a297 (by decide)).trans ((ln_w e315 a297 (by decide)).trans ((ln_w e313 a297 (by decide)).trans ((ln_w e311 a297 (by decide)).trans ((ln_w e309 a297 (by decide)).trans ((ln_w e307 a297 (by decide)).trans ((ln_w e305 a297 (by decide)).trans ((ln_w e303 a297 (by decide)).trans ((ln_w e301 a297 (by decide)).trans (ln_f e299 e298)))))))))))))))))))))))))) (by decide)) ?_
  refine aw_hp (fun h81 e351 => ?_)
  have k := k h81 e351
  refine aw_dup dX10_init_356 rfl ?_
  refine aw_bipush dX10_init_357 ⟨by decide, by decide⟩ (by decide) ?_
  refine aw_bipush dX10_init_359 ⟨by decide, by decide⟩ (by decide) ?_
  have q352 := sh_w e351 (by decide) q350
  refine aw_iast dX10_init_361 q352 (by decide) (lt_l ((ln_w e351 a297 (by decide)).trans ((ln_w e349 a297 (by decide)).trans ((ln_w e347 a297 (by decide)).trans ((ln_w e345 a297 (by decide)).trans ((ln_w e343 a297 (by decide)).trans ((ln_w e341 a297 (by decide)).trans ((ln_w e339 a297 (by decide)).trans ((ln_w e337 a297 (by decide)).trans ((ln_w e335 a297 (by decide)).trans ((ln_w e333 a297 (by decide)).trans ((ln_w e331 a297 (by decide)).trans ((ln_w e329 a297 (by decide)).trans ((ln_w e327 a297 (by decide)).trans ((ln_w e325 a297 (by decide)).trans ((ln_w e323 a297 (by decide)).trans ((ln_w e321 a297 (by decide)).trans ((ln_w e319 a297 (by decide)).trans ((ln_w e317 a297 (by decide)).trans ((ln_w e315 a297 (by decide)).trans ((ln_w e313 a297 (by decide)).trans ((ln_w e311 a297 (by decide)).trans ((ln_w e309 a297 (by decide)).trans ((ln_w e307 a297 (by decide)).trans ((ln_w e305 a297 (by decide)).trans ((ln_w e303 a297 (by decide)).trans ((ln_w e301 a297 (by decide)).trans (ln_f e299 e298))))))))))))))))))))))))))) (by decide)) ?_
  refine aw_hp (fun h82 e353 => ?_)
  have k := k h82 e353
  refine aw_dup dX10_init_362 rfl ?_
  refine aw_bipush dX10_init_363 ⟨by decide, by decide⟩ (by decide) ?_
  refine aw_bipush dX10_init_365 ⟨by decide, by decide⟩ (by decide) ?_
  have q354 := sh_w e353 (by decide) q352
  refine aw_iast dX10_init_367 q354 (by decide) (lt_l ((ln_w e353 a297 (by decide)).trans ((ln_w e351 a297 (by decide)).trans ((ln_w e349 a297 (by decide)).trans ((ln_w e347 a297 (by decide)).trans ((ln_w e345 a297 (by decide)).trans ((ln_w e343 a297 (by decide)).trans ((ln_w e341 a297 (by decide)).trans ((ln_w e339 a297 (by decide)).trans ((ln_w e337 a297 (by decide)).trans ((ln_w e335 a297 (by decide)).trans ((ln_w e333 a297 (by decide)).trans ((ln_w e331 a297 (by decide)).trans ((ln_w e329 a297 (by decide)).trans ((ln_w e327 a297 (by decide)).trans ((ln_w e325 a297 (by decide)).trans ((ln_w e323 a297 (by decide)).trans ((ln_w e321 a297 (by decide)).trans ((ln_w e319 a297 (by decide)).trans ((ln_w e317 a297 (by decide)).trans ((ln_w e315 a297 (by decide)).trans ((ln_w e313 a297 (by decide)).trans ((ln_w e311 a297 (by decide)).trans ((ln_w e309 a297 (by decide)).trans ((ln_w e307 a297 (by decide)).trans ((ln_w e305 a297 (by decide)).trans ((ln_w e303 a297 (by decide)).trans ((ln_w e301 a297 (by decide)).trans (ln_f e299 e298)))))))))))))))))))))))))))) (by decide)) ?_
  refine aw_hp (fun h83 e355 => ?_)
  have k := k h83 e355
  refine aw_dup dX10_init_368 rfl ?_
  refine aw_bipush dX10_init_369 ⟨by decide, by decide⟩ (by decide) ?_
  refine aw_bipush dX10_init_371 ⟨by decide, by decide⟩ (by decide) ?_
  have q356 := sh_w e355 (by decide) q354
  refine aw_iast dX10_init_373 q356 (by decide) (lt_l ((ln_w e355 a297 (by decide)).trans ((ln_w e353 a297 (by decide)).trans ((ln_w e351 a297 (by decide)).trans ((ln_w e349 a297 (by decide)).trans ((ln_w e347 a297 (by decide)).trans ((ln_w e345 a297 (by decide)).trans ((ln_w e343 a297 (by decide)).trans ((ln_w e341 a297 (by decide)).trans ((ln_w e339 a297 (by decide)).trans ((ln_w e337 a297 (by decide)).trans ((ln_w e335 a297 (by decide)).trans ((ln_w e333 a297 (by decide)).trans ((ln_w e331 a297 (by decide)).trans ((ln_w e329 a297 (by decide)).trans ((ln_w e327 a297 (by decide)).trans ((ln_w e325 a297 (by decide)).trans ((ln_w e323 a297 (by decide)).trans ((ln_w e321 a297 (by decide)).trans ((ln_w e319 a297 (by decide)).trans ((ln_w e317 a297 (by decide)).trans ((ln_w e315 a297 (by decide)).trans ((ln_w e313 a297 (by decide)).trans ((ln_w e311 a297 (by decide)).trans ((ln_w e309 a297 (by decide)).trans ((ln_w e307 a297 (by decide)).trans ((ln_w e305 a297 (by decide)).trans ((ln_w e303 a297 (by decide)).trans ((ln_w e301 a297 (by decide)).trans (ln_f e299 e298))))))))))))))))))))))))))))) (by decide)) ?_
  refine aw_hp (fun h84 e357 => ?_)
  have k := k h84 e357
  refine aw_dup dX10_init_374 rfl ?_
  refine aw_bipush dX10_init_375 ⟨by decide, by decide⟩ (by decide) ?_
  refine aw_iconst dX10_init_377 ⟨by decide, by decide⟩ ?_
  have q358 := sh_w e357 (by decide) q356
  refine aw_iast dX10_init_378 q358 (by decide) (lt_l ((ln_w e357 a297 (by decide)).trans ((ln_w e355 a297 (by decide)).trans ((ln_w e353 a297 (by decide)).trans ((ln_w e351 a297 (by decide)).trans ((ln_w e349 a297 (by decide)).trans ((ln_w e347 a297 (by decide)).trans ((ln_w e345 a297 (by decide)).trans ((ln_w e343 a297 (by decide)).trans ((ln_w e341 a297 (by decide)).trans ((ln_w e339 a297 (by decide)).trans ((ln_w e337 a297 (by decide)).trans ((ln_w e335 a297 (by decide)).trans ((ln_w e333 a297 (by decide)).trans ((ln_w e331 a297 (by decide)).trans ((ln_w e329 a297 (by decide)).trans ((ln_w e327 a297 (by decide)).trans ((ln_w e325 a297 (by decide)).trans ((ln_w e323 a297 (by decide)).trans ((ln_w e321 a297 (by decide)).trans ((ln_w e319 a297 (by decide)).trans ((ln_w e317 a297 (by decide)).trans ((ln_w e315 a297 (by decide)).trans ((ln_w e313 a297 (by decide)).trans ((ln_w e311 a297 (by decide)).trans ((ln_w e309 a297 (by decide)).trans ((ln_w e307 a297 (by decide)).trans ((ln_w e305 a297 (by decide)).trans ((ln_w e303 a297 (by decide)).trans ((ln_w e301 a297 (by decide)).trans (ln_f e299 e298)))))))))))))))))))))))))))))) (by decide)) ?_
  refine aw_hp (fun h85 e359 => ?_)
  have k := k h85 e359
  have q360 := sh_w e292 (by decide) q291
  have q361 := sh_n e299 oh293 q360 (by decide)
  have q362 := sh_w e301 (by decide) q361
  have q363 := sh_w e303 (by decide) q362
  have q364 := sh_w e305 (by decide) q363
  have q365 := sh_w e307 (by decide) q364
  have q366 := sh_w e309 (by decide) q365
  have q367 := sh_w e311 (by decide) q366
  have q368 := sh_w e313 (by decide) q367
  have q369 := sh_w e315 (by decide) q368
  have q370 := sh_w e317 (by decide) q369
  have q371 := sh_w e319 (by decide) q370
  have q372 := sh_w e321 (by decide) q371
  have q373 := sh_w e323 (by decide) q372
  have q374 := sh_w e325 (by decide) q373
  have q375 := sh_w e327 (by decide) q374
  have q376 := sh_w e329 (by decide) q375
  have q377 := sh_w e331 (by decide) q376
  have q378 := sh_w e333 (by decide) q377
  have q379 := sh_w e335 (by decide) q378
  have q380 := sh_w e337 (by decide) q379
  have q381 := sh_w e339 (by decide) q380
  have q382 := sh_w e341 (by decide) q381
  have q383 := sh_w e343 (by decide) q382
  have q384 := sh_w e345 (by decide) q383
  have q385 := sh_w e347 (by decide) q384
  have q386 := sh_w e349 (by decide) q385
  have q387 := sh_w e351 (by decide) q386
  have q388 := sh_w e353 (by decide) q387
  have q389 := sh_w e355 (by decide) q388
  have q390 := sh_w e357 (by decide) q389
  have q391 := sh_w e359 (by decide) q390
  refine aw_putR dX10_init_379 fl_X10_89 (fun q hq _ => by cases hq; exact ⟨rfl, rfl⟩) rfl rfl q391 ?_
  refine aw_hp (fun h86 e392 => ?_)
  have k := k h86 e392
  refine aw_aload_n 0 dX10_init_382 rfl rfl ?_
  refine aw_bipush dX10_init_383 ⟨by decide, by decide⟩ (by decide) ?_
  refine aw_use (fun _ _ oh393 => ?_)
  obtain ⟨o394, k⟩ := k
  obtain ⟨o395, k⟩ := k
  obtain ⟨o396, k⟩ := k
  refine aw_newa na_int dX10_init_385 (by decide) (by decide) o394 o395 o396 ?_
  refine aw_hq (fun a397 e398 h87 e399 => ?_)
  have k := k a397 e398 h87 e399
  have q400 := sh_f e399 e398
  have q401 := sh_w e392 (by decide) q391
  have q402 := sh_n e399 oh393 q401 (by decide)
  refine aw_putR dX10_init_387 fl_X10_92 (fun q hq _ => by cases hq; exact ⟨rfl, rfl⟩) rfl rfl q402 ?_
  refine aw_hp (fun h88 e403 => ?_)
  have k := k h88 e403
  exact aw_vret dX10_init_390 rfl k
set_option maxRecDepth 20000 in
theorem sg_X10_isOpen_0 {G : GG} {b : Nat × Nat} {Q : Option VV → Hp → Prop} {v0 v1 v2 : Int} {h : Hp} (k : AW G mm_X10_isOpen b 5 [(0, vR v0), (1, vI v1), (2, vI v2), (3, vI 0), (4, vI 0)] [] h Q) : AW G mm_X10_isOpen b 0 [(0, vR v0), (1, vI v1), (2, vI v2)] [] h Q := by
  refine aw_iconst dX10_isOpen_0 ⟨by decide, by decide⟩ ?_
  refine aw_istore_n dX10_isOpen_1 rfl (by decide) ?_
  refine aw_iconst dX10_isOpen_2 ⟨by decide, by decide⟩ ?_
  refine aw_istore dX10_isOpen_3 (by decide) ?_
  exact aw_sub [2, 3, 4, 1, 0] rfl k
theorem rn_X10_isOpen {G : GG} {Q : Option VV → Hp → Prop} {v0 v1 v2 : Int} {h : Hp} (k : AW G mm_X10_isOpen (0, 0) 5 [(0, vR v0), (1, vI v1), (2, vI v2), (3, vI 0), (4, vI 0)] [] h Q) : Runs G mm_X10_isOpen [vR v0, vI v1, vI v2] h Q := Runs.of (by decide +kernel) (Nat.le_of_ble_eq_true rfl) (sg_X10_isOpen_0 (b := (0, 0)) k)
set_option maxRecDepth 20000 in
theorem sg_X10_isOpen_5 {G : GG} {b : Nat × Nat} {Q : Option VV → Hp → Prop} {v0 v1 v2 v3 v4 : Int} {h : Hp} (k : (h v0 (-1) = 11) ∧ (h (h v0 6) (-1) = 20) ∧ (0 ≤ v1) ∧ (v1 < h (h v0 6) (-2)) ∧ (((h (h v0 6) v1) ≤ v4) → (v3 = 0 ∨ v3 = 1) ∧ Q (some (vI v3)) h) ∧ ((¬ ((h (h v0 6) v1) ≤ v4)) → ((¬ v3 = 0) → (inI (v4 + 1)) ∧ AW G mm_X10_isOpen b 5 [(0, vR v0), (1, vI v1), (2, vI v2), (3, vI 1), (4, vI (v4 + 1))] [] h Q) ∧ ((v3 = 0) → (inI (4 * v1)) ∧ (inI ((4 * v1) + v4)) ∧ (inI (7 * ((4 * v1) + v4))) ∧ (inI ((7 * ((4 * v1) + v4)) + 0)) ∧ (h (h v0 7) (-1) = 20) ∧ (0 ≤ ((7 * ((4 * v1) + v4)) + 0)) ∧ (((7 * ((4 * v1) + v4)) + 0) < h (h v0 7) (-2)) ∧ ((¬ (h (h v0 7) ((7 * ((4 * v1) + v4)) + 0)) = v2) → (inI (v4 + 1)) ∧ AW G mm_X10_isOpen b 5 [(0, vR v0), (1, vI v1), (2, vI v2), (3, vI 0), (4, vI (v4 + 1))] [] h Q) ∧ (((h (h v0 7) ((7 * ((4 * v1) + v4)) + 0)) = v2) → (inI (v4 + 1)) ∧ AW G mm_X10_isOpen b 5 [(0, vR v0), (1, vI v1), (2, vI v2), (3, vI 1), (4, vI (v4 + 1))] [] h Q)))) : AW G mm_X10_isOpen b 5 [(0, vR v0), (1, vI v1), (2, vI v2), (3, vI v3), (4, vI v4)] [] h Q := by
  refine aw_iload 4 dX10_isOpen_5 rfl ?_
  refine aw_aload_n 0 dX10_isOpen_7 rfl rfl ?_
  obtain ⟨o1, k⟩ := k
  refine aw_getR dX10_isOpen_8 fl_X10_28 rfl o1 (x := (h v0 6)) rfl ?_
  refine aw_iload_n 1 dX10_isOpen_11 rfl rfl ?_
  obtain ⟨o2, k⟩ := k
  obtain ⟨o3, k⟩ := k
  obtain ⟨o4, k⟩ := k
  refine aw_iald dX10_isOpen_12 o2 o3 o4 (x := (h (h v0 6) v1)) rfl ?_
  refine aw_icmp_ge (tgt := 52) dX10_isOpen_13 (by decide) (fun hc => ?_) (fun hc => ?_)
  · have k := k.1 hc
    refine aw_iload_n 3 dX10_isOpen_52 rfl rfl ?_
    obtain ⟨o5, k⟩ := k
    exact aw_zret dX10_isOpen_53 rfl o5 k
  · have k := k.2 hc
    refine aw_iload_n 3 dX10_isOpen_16 rfl rfl ?_
    refine aw_if_ne (tgt := 40) dX10_isOpen_17 (by decide) (fun hc => ?_) (fun hc => ?_)
    · have k := k.1 hc
      refine aw_iconst dX10_isOpen_40 ⟨by decide, by decide⟩ ?_
      refine aw_goto (tgt := 45) dX10_isOpen_41 (by decide) ?_
      refine aw_istore_n dX10_isOpen_45 rfl (by decide) ?_
      obtain ⟨o6, k⟩ := k
      refine aw_iinc 4 dX10_isOpen_46 rfl o6 (by decide) ?_
      refine aw_goto (tgt := 5) dX10_isOpen_49 (by decide) ?_
      exact aw_sub [2, 3, 4, 1, 0] rfl k
    · have k := k.2 hc
      refine aw_aload_n 0 dX10_isOpen_20 rfl rfl ?_
      refine aw_getR dX10_isOpen_21 fl_X10_31 rfl o1 (x := (h v0 7)) rfl ?_
      refine aw_bipush dX10_isOpen_24 ⟨by decide, by decide⟩ (by decide) ?_
      refine aw_iconst dX10_isOpen_26 ⟨by decide, by decide⟩ ?_
      refine aw_iload_n 1 dX10_isOpen_27 rfl rfl ?_
      obtain ⟨o7, k⟩ := k
      refine aw_imul dX10_isOpen_28 o7 ?_
      refine aw_iload 4 dX10_isOpen_29 rfl ?_
      obtain ⟨o8, k⟩ := k
      refine aw_iadd dX10_isOpen_31 o8 ?_
      obtain ⟨o9, k⟩ := k
      refine aw_imul dX10_isOpen_32 o9 ?_
      refine aw_iconst dX10_isOpen_33 ⟨by decide, by decide⟩ ?_
      obtain ⟨o10, k⟩ := k
      refine aw_iadd dX10_isOpen_34 o10 ?_
      obtain ⟨o11, k⟩ := k
      obtain ⟨o12, k⟩ := k
      obtain ⟨o13, k⟩ := k
      refine aw_iald dX10_isOpen_35 o11 o12 o13 (x := (h (h v0 7) ((7 * ((4 * v1) + v4)) + 0))) rfl ?_
      refine aw_iload_n 2 dX10_isOpen_36 rfl rfl ?_
      refine aw_icmp_ne (tgt := 44) dX10_isOpen_37 (by decide) (fun hc => ?_) (fun hc => ?_)
      · have k := k.1 hc
        refine aw_iconst dX10_isOpen_44 ⟨by decide, by decide⟩ ?_
        refine aw_istore_n dX10_isOpen_45 rfl (by decide) ?_
        obtain ⟨o14, k⟩ := k
        refine aw_iinc 4 dX10_isOpen_46 rfl o14 (by decide) ?_
        refine aw_goto (tgt := 5) dX10_isOpen_49 (by decide) ?_
        exact aw_sub [2, 3, 4, 1, 0] rfl k
      · have k := k.2 hc
        refine aw_iconst dX10_isOpen_40 ⟨by decide, by decide⟩ ?_
        refine aw_goto (tgt := 45) dX10_isOpen_41 (by decide) ?_
        refine aw_istore_n dX10_isOpen_45 rfl (by decide) ?_
        obtain ⟨o15, k⟩ := k
        refine aw_iinc 4 dX10_isOpen_46 rfl o15 (by decide) ?_
        refine aw_goto (tgt := 5) dX10_isOpen_49 (by decide) ?_
        exact aw_sub [2, 3, 4, 1, 0] rfl k
set_option maxRecDepth 20000 in
theorem sg_X10_isReady_0 {G : GG} {b : Nat × Nat} {Q : Option VV → Hp → Prop} {v0 v1 : Int} {h : Hp} (k : (h v0 (-1) = 11) ∧ (inI (2 * v1)) ∧ (h (h v0 4) (-1) = 20) ∧ (0 ≤ (2 * v1)) ∧ ((2 * v1) < h (h v0 4) (-2)) ∧ (((h (h v0 4) (2 * v1)) = 1) → Q (some (vI 1)) h) ∧ ((¬ ((h (h v0 4) (2 * v1)) = 1)) → (inI ((2 * v1) + 1)) ∧ (0 ≤ ((2 * v1) + 1)) ∧ (((2 * v1) + 1) < h (h v0 4) (-2)) ∧ ((¬ (h (h v0 4) ((2 * v1) + 1)) = 1) → Q (some (vI 0)) h) ∧ (((h (h v0 4) ((2 * v1) + 1)) = 1) → Q (some (vI 1)) h))) : AW G mm_X10_isReady b 0 [(0, vR v0), (1, vI v1)] [] h Q := by
  refine aw_aload_n 0 dX10_isReady_0 rfl rfl ?_
  obtain ⟨o1, k⟩ := k
  refine aw_getR dX10_isReady_1 fl_X10_22 rfl o1 (x := (h v0 4)) rfl ?_
  refine aw_iconst dX10_isReady_4 ⟨by decide, by decide⟩ ?_
  refine aw_iload_n 1 dX10_isReady_5 rfl rfl ?_
  obtain ⟨o2, k⟩ := k
  refine aw_imul dX10_isReady_6 o2 ?_
  obtain ⟨o3, k⟩ := k
  obtain ⟨o4, k⟩ := k
  obtain ⟨o5, k⟩ := k
  refine aw_iald dX10_isReady_7 o3 o4 o5 (x := (h (h v0 4) (2 * v1))) rfl ?_
  refine aw_iconst dX10_isReady_8 ⟨by decide, by decide⟩ ?_
  refine aw_icmp_eq (tgt := 26) dX10_isReady_9 (by decide) (fun hc => ?_) (fun hc => ?_)
  · have k := k.1 hc
    refine aw_iconst dX10_isReady_26 ⟨by decide, by decide⟩ ?_
    refine aw_goto (tgt := 31) dX10_isReady_27 (by decide) ?_
    exact aw_zret dX10_isReady_31 rfl (by decide) k
  · have k := k.2 hc
    refine aw_aload_n 0 dX10_isReady_12 rfl rfl ?_
    refine aw_getR dX10_isReady_13 fl_X10_22 rfl o1 (x := (h v0 4)) rfl ?_
    refine aw_iconst dX10_isReady_16 ⟨by decide, by decide⟩ ?_
    refine aw_iload_n 1 dX10_isReady_17 rfl rfl ?_
    refine aw_imul dX10_isReady_18 o2 ?_
    refine aw_iconst dX10_isReady_19 ⟨by decide, by decide⟩ ?_
    obtain ⟨o6, k⟩ := k
    refine aw_iadd dX10_isReady_20 o6 ?_
    obtain ⟨o7, k⟩ := k
    obtain ⟨o8, k⟩ := k
    refine aw_iald dX10_isReady_21 o3 o7 o8 (x := (h (h v0 4) ((2 * v1) + 1))) rfl ?_
    refine aw_iconst dX10_isReady_22 ⟨by decide, by decide⟩ ?_
    refine aw_icmp_ne (tgt := 30) dX10_isReady_23 (by decide) (fun hc => ?_) (fun hc => ?_)
    · have k := k.1 hc
      refine aw_iconst dX10_isReady_30 ⟨by decide, by decide⟩ ?_
      exact aw_zret dX10_isReady_31 rfl (by decide) k
    · have k := k.2 hc
      refine aw_iconst dX10_isReady_26 ⟨by decide, by decide⟩ ?_
      refine aw_goto (tgt := 31) dX10_isReady_27 (by decide) ?_
      exact aw_zret dX10_isReady_31 rfl (by decide) k
theorem rn_X10_isReady {G : GG} {Q : Option VV → Hp → Prop} {v0 v1 : Int} {h : Hp} (k : (h v0 (-1) = 11) ∧ (inI (2 * v1)) ∧ (h (h v0 4) (-1) = 20) ∧ (0 ≤ (2 * v1)) ∧ ((2 * v1) < h (h v0 4) (-2)) ∧ (((h (h v0 4) (2 * v1)) = 1) → Q (some (vI 1)) h) ∧ ((¬ ((h (h v0 4) (2 * v1)) = 1)) → (inI ((2 * v1) + 1)) ∧ (0 ≤ ((2 * v1) + 1)) ∧ (((2 * v1) + 1) < h (h v0 4) (-2)) ∧ ((¬ (h (h v0 4) ((2 * v1) + 1)) = 1) → Q (some (vI 0)) h) ∧ (((h (h v0 4) ((2 * v1) + 1)) = 1) → Q (some (vI 1)) h))) : Runs G mm_X10_isReady [vR v0, vI v1] h Q := Runs.of (by decide +kernel) (Nat.le_of_ble_eq_true rfl) (sg_X10_isReady_0 (b := (0, 0)) k)
set_option maxRecDepth 20000 in
theorem sg_X10_join_0 {G : GG} {b : Nat × Nat} {Q : Option VV → Hp → Prop} {v0 v1 : Int} {h : Hp} (k : ((0 ≤ v1 ∧ v1 ≤ 1) → (h v0 (-1) = 11) ∧ Runs G mm_X10_isReady [vR v0, vI v1] h (fun r h' => AW G mm_X10_join b 16 [(0, vR v0), (1, vI v1)] (r.toList ++ []) h' Q)) ∧ ((¬ (0 ≤ v1 ∧ v1 ≤ 1)) → Q (some (vI (-1001))) h)) : AW G mm_X10_join b 0 [(0, vR v0), (1, vI v1)] [] h Q := by
  refine aw_iload_n 1 dX10_join_0 rfl rfl ?_
  refine aw_callS (M' := mm_X10_isHost) [vI v1] [] lk_X10_194 dX10_join_1 rfl (Nat.le_of_ble_eq_true rfl) ⟨by decide, by decide, Nat.zero_le _, Nat.zero_le _⟩ ?_
  refine pu_X10_isHost ?_
  refine aw_if_ne (tgt := 11) dX10_join_4 (by decide) (fun hc => ?_) (fun hc => ?_)
  · have k := k.1 (b2i_n.mp hc)
    refine aw_aload_n 0 dX10_join_11 rfl rfl ?_
    refine aw_iload_n 1 dX10_join_12 rfl rfl ?_
    obtain ⟨o1, k⟩ := k
    refine aw_callV (M' := mm_X10_isReady) 10 [vI v1] [] lk_X10_211 ⟨_, rfl, rfl⟩ dX10_join_13 rfl (Nat.le_of_ble_eq_true rfl) ⟨by decide, by decide, Nat.zero_le _, Nat.zero_le _⟩ o1 ?_
    exact k
  · have k := k.2 (b2i_0.mp hc)
    refine aw_sipush dX10_join_7 ⟨by decide, by decide⟩ (by decide) ?_
    exact aw_iret dX10_join_10 rfl k
theorem rn_X10_join {G : GG} {Q : Option VV → Hp → Prop} {v0 v1 : Int} {h : Hp} (k : ((0 ≤ v1 ∧ v1 ≤ 1) → (h v0 (-1) = 11) ∧ Runs G mm_X10_isReady [vR v0, vI v1] h (fun r h' => AW G mm_X10_join (0, 0) 16 [(0, vR v0), (1, vI v1)] (r.toList ++ []) h' Q)) ∧ ((¬ (0 ≤ v1 ∧ v1 ≤ 1)) → Q (some (vI (-1001))) h)) : Runs G mm_X10_join [vR v0, vI v1] h Q := Runs.of (by decide +kernel) (Nat.le_of_ble_eq_true rfl) (sg_X10_join_0 (b := (0, 0)) k)
set_option maxRecDepth 20000 in
theorem sg_X10_join_16 {G : GG} {b : Nat × Nat} {Q : Option VV → Hp → Prop} {v0 v1 s0 : Int} {h : Hp} (k : ((s0 = 0) → (h v0 (-1) = 11) ∧ Runs G mm_X10_joins [vR v0, vI v1] h (fun r h' => AW G mm_X10_join b 28 [(0, vR v0)] (r.toList ++ []) h' Q)) ∧ ((¬ (s0 = 0)) → Q (some (vI (-1003))) h)) : AW G mm_X10_join b 16 [(0, vR v0), (1, vI v1)] [vI s0] h Q := by
  refine aw_if_eq (tgt := 23) dX10_join_16 (by decide) (fun hc => ?_) (fun hc => ?_)
  · have k := k.1 hc
    refine aw_aload_n 0 dX10_join_23 rfl rfl ?_
    refine aw_iload_n 1 dX10_join_24 rfl rfl ?_
    obtain ⟨o1, k⟩ := k
    refine aw_callV (M' := mm_X10_joins) 10 [vI v1] [] lk_X10_166 ⟨_, rfl, rfl⟩ dX10_join_25 rfl (Nat.le_of_ble_eq_true rfl) ⟨by decide, by decide, Nat.zero_le _, Nat.zero_le _⟩ o1 ?_
    exact k.mono (fun _ _ z => aw_sub [0] rfl z)
  · have k := k.2 hc
    refine aw_sipush dX10_join_19 ⟨by decide, by decide⟩ (by decide) ?_
    exact aw_iret dX10_join_22 rfl k
set_option maxRecDepth 20000 in
theorem sg_X10_join_28 {G : GG} {b : Nat × Nat} {Q : Option VV → Hp → Prop} {v0 : Int} {h : Hp} (k : (h v0 (-1) = 11) ∧ Runs G mm_X10_readyEnds [vR v0] h (fun r h' => AW G mm_X10_join b 32 [] (r.toList ++ []) h' Q)) : AW G mm_X10_join b 28 [(0, vR v0)] [] h Q := by
  refine aw_aload_n 0 dX10_join_28 rfl rfl ?_
  obtain ⟨o1, k⟩ := k
  refine aw_callV (M' := mm_X10_readyEnds) 10 [] [] lk_X10_217 ⟨_, rfl, rfl⟩ dX10_join_29 rfl (Nat.le_of_ble_eq_true rfl) ⟨by decide, by decide, Nat.zero_le _, Nat.zero_le _⟩ o1 ?_
  exact k.mono (fun _ _ z => aw_sub [] rfl z)
set_option maxRecDepth 20000 in
theorem sg_X10_join_32 {G : GG} {b : Nat × Nat} {Q : Option VV → Hp → Prop} {s0 : Int} {h : Hp} (k : Q (some (vI s0)) h) : AW G mm_X10_join b 32 [] [vI s0] h Q := by
  exact aw_iret dX10_join_32 rfl k
set_option maxRecDepth 20000 in
theorem sg_X10_joins_0 {G : GG} {b : Nat × Nat} {Q : Option VV → Hp → Prop} {v0 v1 : Int} {h : Hp} (k : (h v0 (-1) = 11) ∧ Runs G mm_X10_isReady [vR v0, vI v1] h (fun r h' => AW G mm_X10_joins b 5 [(0, vR v0), (1, vI v1)] (r.toList ++ []) h' Q)) : AW G mm_X10_joins b 0 [(0, vR v0), (1, vI v1)] [] h Q := by
  refine aw_aload_n 0 dX10_joins_0 rfl rfl ?_
  refine aw_iload_n 1 dX10_joins_1 rfl rfl ?_
  obtain ⟨o1, k⟩ := k
  refine aw_callV (M' := mm_X10_isReady) 10 [vI v1] [] lk_X10_211 ⟨_, rfl, rfl⟩ dX10_joins_2 rfl (Nat.le_of_ble_eq_true rfl) ⟨by decide, by decide, Nat.zero_le _, Nat.zero_le _⟩ o1 ?_
  exact k
theorem rn_X10_joins {G : GG} {Q : Option VV → Hp → Prop} {v0 v1 : Int} {h : Hp} (k : (h v0 (-1) = 11) ∧ Runs G mm_X10_isReady [vR v0, vI v1] h (fun r h' => AW G mm_X10_joins (0, 0) 5 [(0, vR v0), (1, vI v1)] (r.toList ++ []) h' Q)) : Runs G mm_X10_joins [vR v0, vI v1] h Q := Runs.of (by decide +kernel) (Nat.le_of_ble_eq_true rfl) (sg_X10_joins_0 (b := (0, 0)) k)
set_option maxRecDepth 20000 in
theorem sg_X10_joins_5 {G : GG} {b : Nat × Nat} {Q : Option VV → Hp → Prop} {v0 v1 s0 : Int} {h : Hp} (k : ((s0 = 0) → (inI (2 * v1)) ∧ (h v0 (-1) = 11) ∧ Runs G mm_X10_endAnew [vR v0, vI (2 * v1), vI 1] h (fun r h' => AW G mm_X10_joins b 17 [(0, vR v0), (1, vI v1)] (r.toList ++ []) h' Q)) ∧ ((¬ (s0 = 0)) → Q none h)) : AW G mm_X10_joins b 5 [(0, vR v0), (1, vI v1)] [vI s0] h Q := by
  refine aw_if_eq (tgt := 9) dX10_joins_5 (by decide) (fun hc => ?_) (fun hc => ?_)
  · have k := k.1 hc
    refine aw_aload_n 0 dX10_joins_9 rfl rfl ?_
    refine aw_iconst dX10_joins_10 ⟨by decide, by decide⟩ ?_
    refine aw_iload_n 1 dX10_joins_11 rfl rfl ?_
    obtain ⟨o1, k⟩ := k
    refine aw_imul dX10_joins_12 o1 ?_
    refine aw_iconst dX10_joins_13 ⟨by decide, by decide⟩ ?_
    obtain ⟨o2, k⟩ := k
    refine aw_callV (M' := mm_X10_endAnew) 10 [vI (2 * v1), vI 1] [] lk_X10_105 ⟨_, rfl, rfl⟩ dX10_joins_14 rfl (Nat.le_of_ble_eq_true rfl) ⟨by decide, by decide, Nat.zero_le _, Nat.zero_le _⟩ o2 ?_
    exact k
  · have k := k.2 hc
    exact aw_vret dX10_joins_8 rfl k
set_option maxRecDepth 20000 in
theorem sg_X10_joins_17 {G : GG} {b : Nat × Nat} {Q : Option VV → Hp → Prop} {v0 v1 : Int} {h : Hp} (k : (inI (2 * v1)) ∧ (inI ((2 * v1) + 1)) ∧ (h v0 (-1) = 11) ∧ Runs G mm_X10_endAnew [vR v0, vI ((2 * v1) + 1), vI 1] h (fun r h' => AW G mm_X10_joins b 27 [(0, vR v0), (1, vI v1)] (r.toList ++ []) h' Q)) : AW G mm_X10_joins b 17 [(0, vR v0), (1, vI v1)] [] h Q := by
  refine aw_aload_n 0 dX10_joins_17 rfl rfl ?_
  refine aw_iconst dX10_joins_18 ⟨by decide, by decide⟩ ?_
  refine aw_iload_n 1 dX10_joins_19 rfl rfl ?_
  obtain ⟨o1, k⟩ := k
  refine aw_imul dX10_joins_20 o1 ?_
  refine aw_iconst dX10_joins_21 ⟨by decide, by decide⟩ ?_
  obtain ⟨o2, k⟩ := k
  refine aw_iadd dX10_joins_22 o2 ?_
  refine aw_iconst dX10_joins_23 ⟨by decide, by decide⟩ ?_
  obtain ⟨o3, k⟩ := k
  refine aw_callV (M' := mm_X10_endAnew) 10 [vI ((2 * v1) + 1), vI 1] [] lk_X10_105 ⟨_, rfl, rfl⟩ dX10_joins_24 rfl (Nat.le_of_ble_eq_true rfl) ⟨by decide, by decide, Nat.zero_le _, Nat.zero_le _⟩ o3 ?_
  exact k
set_option maxRecDepth 20000 in
theorem sg_X10_joins_27 {G : GG} {b : Nat × Nat} {Q : Option VV → Hp → Prop} {v0 v1 : Int} {h : Hp} (k : AW G mm_X10_joins b 31 [(0, vR v0), (1, vI v1), (2, vI 0), (3, vI 0)] [] h Q) : AW G mm_X10_joins b 27 [(0, vR v0), (1, vI v1)] [] h Q := by
  refine aw_iconst dX10_joins_27 ⟨by decide, by decide⟩ ?_
  refine aw_istore_n dX10_joins_28 rfl (by decide) ?_
  refine aw_iconst dX10_joins_29 ⟨by decide, by decide⟩ ?_
  refine aw_istore_n dX10_joins_30 rfl (by decide) ?_
  exact aw_sub [2, 3, 1, 0] rfl k
set_option maxRecDepth 20000 in
theorem sg_X10_joins_31 {G : GG} {b : Nat × Nat} {Q : Option VV → Hp → Prop} {v0 v1 v2 v3 : Int} {h : Hp} (k : (h v0 (-1) = 11) ∧ (((h v0 21) ≤ v3) → ∀ h1, h1 = wr h v0 21 v2 → Q none h1) ∧ ((¬ ((h v0 21) ≤ v3)) → (inI (11 * v3)) ∧ (inI ((11 * v3) + 0)) ∧ (h (h v0 20) (-1) = 20) ∧ (0 ≤ ((11 * v3) + 0)) ∧ (((11 * v3) + 0) < h (h v0 20) (-2)) ∧ (0 ≤ (h (h v0 20) ((11 * v3) + 0))) ∧ ((((h (h v0 20) ((11 * v3) + 0)) / 2) = v1) → (inI (v3 + 1)) ∧ AW G mm_X10_joins b 31 [(0, vR v0), (1, vI v1), (2, vI v2), (3, vI (v3 + 1))] [] h Q) ∧ ((¬ (((h (h v0 20) ((11 * v3) + 0)) / 2) = v1)) → Runs G mm_X10_copyPacket [vR v0, vI v3, vI v2] h (fun r h' => AW G mm_X10_joins b 62 [(0, vR v0), (1, vI v1), (2, vI v2), (3, vI v3)] (r.toList ++ []) h' Q)))) : AW G mm_X10_joins b 31 [(0, vR v0), (1, vI v1), (2, vI v2), (3, vI v3)] [] h Q := by
  refine aw_iload_n 3 dX10_joins_31 rfl rfl ?_
  refine aw_aload_n 0 dX10_joins_32 rfl rfl ?_
  obtain ⟨o1, k⟩ := k
  refine aw_getI dX10_joins_33 fl_X10_113 rfl o1 (x := (h v0 21)) rfl ?_
  refine aw_icmp_ge (tgt := 71) dX10_joins_36 (by decide) (fun hc => ?_) (fun hc => ?_)
  · have k := k.1 hc
    refine aw_aload_n 0 dX10_joins_71 rfl rfl ?_
    refine aw_iload_n 2 dX10_joins_72 rfl rfl ?_
    refine aw_putI dX10_joins_73 fl_X10_113 (fun q hq hf => by cases hq; cases hf) rfl rfl o1 ?_
    refine aw_hp (fun h1 e2 => ?_)
    have k := k h1 e2
    exact aw_vret dX10_joins_76 rfl k
  · have k := k.2 hc
    refine aw_aload_n 0 dX10_joins_39 rfl rfl ?_
    refine aw_getR dX10_joins_40 fl_X10_68 rfl o1 (x := (h v0 20)) rfl ?_
    refine aw_bipush dX10_joins_43 ⟨by decide, by decide⟩ (by decide) ?_
    refine aw_iload_n 3 dX10_joins_45 rfl rfl ?_
    obtain ⟨o3, k⟩ := k
    refine aw_imul dX10_joins_46 o3 ?_
    refine aw_iconst dX10_joins_47 ⟨by decide, by decide⟩ ?_
    obtain ⟨o4, k⟩ := k
    refine aw_iadd dX10_joins_48 o4 ?_
    obtain ⟨o5, k⟩ := k
    obtain ⟨o6, k⟩ := k
    obtain ⟨o7, k⟩ := k
    refine aw_iald dX10_joins_49 o5 o6 o7 (x := (h (h v0 20) ((11 * v3) + 0))) rfl ?_
    refine aw_iconst dX10_joins_50 ⟨by decide, by decide⟩ ?_
    obtain ⟨o8, k⟩ := k
    refine aw_idiv dX10_joins_51 o8 (by decide) ?_
    refine aw_iload_n 1 dX10_joins_52 rfl rfl ?_
    refine aw_icmp_eq (tgt := 65) dX10_joins_53 (by decide) (fun hc => ?_) (fun hc => ?_)
    · have k := k.1 hc
      obtain ⟨o9, k⟩ := k
      refine aw_iinc 3 dX10_joins_65 rfl o9 (by decide) ?_
      refine aw_goto (tgt := 31) dX10_joins_68 (by decide) ?_
      exact aw_sub [1, 2, 3, 0] rfl k
    · have k := k.2 hc
      refine aw_aload_n 0 dX10_joins_56 rfl rfl ?_
      refine aw_iload_n 3 dX10_joins_57 rfl rfl ?_
      refine aw_iload_n 2 dX10_joins_58 rfl rfl ?_
      refine aw_callV (M' := mm_X10_copyPacket) 10 [vI v3, vI v2] [] lk_X10_214 ⟨_, rfl, rfl⟩ dX10_joins_59 rfl (Nat.le_of_ble_eq_true rfl) ⟨by decide, by decide, Nat.zero_le _, Nat.zero_le _⟩ o1 ?_
      exact k
set_option maxRecDepth 20000 in
theorem sg_X10_joins_62 {G : GG} {b : Nat × Nat} {Q : Option VV → Hp → Prop} {v0 v1 v2 v3 : Int} {h : Hp} (k : (inI (v2 + 1)) ∧ (inI (v3 + 1)) ∧ AW G mm_X10_joins b 31 [(0, vR v0), (1, vI v1), (2, vI (v2 + 1)), (3, vI (v3 + 1))] [] h Q) : AW G mm_X10_joins b 62 [(0, vR v0), (1, vI v1), (2, vI v2), (3, vI v3)] [] h Q := by
  obtain ⟨o1, k⟩ := k
  refine aw_iinc 2 dX10_joins_62 rfl o1 (by decide) ?_
  obtain ⟨o2, k⟩ := k
  refine aw_iinc 3 dX10_joins_65 rfl o2 (by decide) ?_
  refine aw_goto (tgt := 31) dX10_joins_68 (by decide) ?_
  exact aw_sub [2, 3, 1, 0] rfl k
set_option maxRecDepth 20000 in
theorem sg_X10_key_0 {G : GG} {b : Nat × Nat} {Q : Option VV → Hp → Prop} {v0 v1 v2 v3 v4 v5 : Int} {h : Hp} (k : ((¬ (0 ≤ v1 ∧ v1 ≤ 1)) → Q (some (vI (-1001))) h) ∧ ((0 ≤ v1 ∧ v1 ≤ 1) → ((0 ≤ v2 ∧ v2 ≤ 3) → ((¬ (0 ≤ v3 ∧ v3 ≤ 11)) → Q (some (vI (-1002))) h) ∧ ((0 ≤ v3 ∧ v3 ≤ 11) → (inI (12 - v3)) ∧ ((¬ (1 ≤ v4 ∧ v4 ≤ (12 - v3))) → Q (some (vI (-1002))) h) ∧ ((1 ≤ v4 ∧ v4 ≤ (12 - v3)) → ((0 ≤ v5 ∧ v5 ≤ 7) → (inI (4 * v1)) ∧ (inI ((4 * v1) + v2)) ∧ (h v0 (-1) = 11) ∧ Runs G mm_X10_keys [vR v0, vI ((4 * v1) + v2), vI v3, vI v4, vI v5] h (fun r h' => AW G mm_X10_key b 76 [(0, vR v0), (1, vI v1)] (r.toList ++ []) h' Q)) ∧ ((¬ (0 ≤ v5 ∧ v5 ≤ 7)) → Q (some (vI (-1002))) h)))) ∧ ((¬ (0 ≤ v2 ∧ v2 ≤ 3)) → Q (some (vI (-1001))) h))) : AW G mm_X10_key b 0 [(0, vR v0), (1, vI v1), (2, vI v2), (3, vI v3), (4, vI v4), (5, vI v5)] [] h Q := by
  refine aw_iload_n 1 dX10_key_0 rfl rfl ?_
  refine aw_callS (M' := mm_X10_isHost) [vI v1] [] lk_X10_194 dX10_key_1 rfl (Nat.le_of_ble_eq_true rfl) ⟨by decide, by decide, Nat.zero_le _, Nat.zero_le _⟩ ?_
  refine pu_X10_isHost ?_
  refine aw_if_eq (tgt := 19) dX10_key_4 (by decide) (fun hc => ?_) (fun hc => ?_)
  · have k := k.1 (b2i_0.mp hc)
    refine aw_sipush dX10_key_19 ⟨by decide, by decide⟩ (by decide) ?_
    exact aw_iret dX10_key_22 rfl k
  · have k := k.2 (b2i_n.mp hc)
    refine aw_iload_n 2 dX10_key_7 rfl rfl ?_
    refine aw_i2l dX10_key_8 ?_
    refine aw_lconst (x := 0) dX10_key_9 ⟨by decide, by decide⟩ (by decide) ?_
    refine aw_ldc2 (x := 3) dX10_key_10 ⟨by decide, by decide⟩ cl_X10_101 ?_
    refine aw_callS (M' := mm_X10_in) [vL v2, vL 0, vL 3] [] lk_X10_95 dX10_key_13 rfl (Nat.le_of_ble_eq_true rfl) ⟨by decide, by decide, Nat.zero_le _, Nat.zero_le _⟩ ?_
    refine pu_X10_in ?_
    refine aw_if_ne (tgt := 23) dX10_key_16 (by decide) (fun hc => ?_) (fun hc => ?_)
    · have k := k.1 (b2i_n.mp hc)
      refine aw_iload_n 3 dX10_key_23 rfl rfl ?_
      refine aw_callS (M' := mm_X10_isCell) [vI v3] [] lk_X10_197 dX10_key_24 rfl (Nat.le_of_ble_eq_true rfl) ⟨by decide, by decide, Nat.zero_le _, Nat.zero_le _⟩ ?_
      refine pu_X10_isCell ?_
      refine aw_if_eq (tgt := 58) dX10_key_27 (by decide) (fun hc => ?_) (fun hc => ?_)
      · have k := k.1 (b2i_0.mp hc)
        refine aw_sipush dX10_key_58 ⟨by decide, by decide⟩ (by decide) ?_
        exact aw_iret dX10_key_61 rfl k
      · have k := k.2 (b2i_n.mp hc)
        refine aw_iload 4 dX10_key_30 rfl ?_
        refine aw_i2l dX10_key_32 ?_
        refine aw_lconst (x := 1) dX10_key_33 ⟨by decide, by decide⟩ (by decide) ?_
        refine aw_bipush dX10_key_34 ⟨by decide, by decide⟩ (by decide) ?_
        refine aw_iload_n 3 dX10_key_36 rfl rfl ?_
        obtain ⟨o1, k⟩ := k
        refine aw_isub dX10_key_37 o1 ?_
        refine aw_i2l dX10_key_38 ?_
        refine aw_callS (M' := mm_X10_in) [vL v4, vL 1, vL (12 - v3)] [] lk_X10_95 dX10_key_39 rfl (Nat.le_of_ble_eq_true rfl) ⟨by decide, by decide, Nat.zero_le _, Nat.zero_le _⟩ ?_
        refine pu_X10_in ?_
        refine aw_if_eq (tgt := 58) dX10_key_42 (by decide) (fun hc => ?_) (fun hc => ?_)
        · have k := k.1 (b2i_0.mp hc)
          refine aw_sipush dX10_key_58 ⟨by decide, by decide⟩ (by decide) ?_
          exact aw_iret dX10_key_61 rfl k
        · have k := k.2 (b2i_n.mp hc)
          refine aw_iload 5 dX10_key_45 rfl ?_
          refine aw_i2l dX10_key_47 ?_
          refine aw_lconst (x := 0) dX10_key_48 ⟨by decide, by decide⟩ (by decide) ?_
          refine aw_ldc2 (x := 7) dX10_key_49 ⟨by decide, by decide⟩ cl_X10_203 ?_
          refine aw_callS (M' := mm_X10_in) [vL v5, vL 0, vL 7] [] lk_X10_95 dX10_key_52 rfl (Nat.le_of_ble_eq_true rfl) ⟨by decide, by decide, Nat.zero_le _, Nat.zero_le _⟩ ?_
          refine pu_X10_in ?_
          refine aw_if_ne (tgt := 62) dX10_key_55 (by decide) (fun hc => ?_) (fun hc => ?_)
          · have k := k.1 (b2i_n.mp hc)
            refine aw_aload_n 0 dX10_key_62 rfl rfl ?_
            refine aw_iconst dX10_key_63 ⟨by decide, by decide⟩ ?_
            refine aw_iload_n 1 dX10_key_64 rfl rfl ?_
            obtain ⟨o2, k⟩ := k
            refine aw_imul dX10_key_65 o2 ?_
            refine aw_iload_n 2 dX10_key_66 rfl rfl ?_
            obtain ⟨o3, k⟩ := k
            refine aw_iadd dX10_key_67 o3 ?_
            refine aw_iload_n 3 dX10_key_68 rfl rfl ?_
            refine aw_iload 4 dX10_key_69 rfl ?_
            refine aw_iload 5 dX10_key_71 rfl ?_
            obtain ⟨o4, k⟩ := k
            refine aw_callV (M' := mm_X10_keys) 10 [vI ((4 * v1) + v2), vI v3, vI v4, vI v5] [] lk_X10_162 ⟨_, rfl, rfl⟩ dX10_key_73 rfl (Nat.le_of_ble_eq_true rfl) ⟨by decide, by decide, Nat.zero_le _, Nat.zero_le _⟩ o4 ?_
            exact k.mono (fun _ _ z => aw_sub [0, 1] rfl z)
          · have k := k.2 (b2i_0.mp hc)
            refine aw_sipush dX10_key_58 ⟨by decide, by decide⟩ (by decide) ?_
            exact aw_iret dX10_key_61 rfl k
    · have k := k.2 (b2i_0.mp hc)
      refine aw_sipush dX10_key_19 ⟨by decide, by decide⟩ (by decide) ?_
      exact aw_iret dX10_key_22 rfl k
theorem rn_X10_key {G : GG} {Q : Option VV → Hp → Prop} {v0 v1 v2 v3 v4 v5 : Int} {h : Hp} (k : ((¬ (0 ≤ v1 ∧ v1 ≤ 1)) → Q (some (vI (-1001))) h) ∧ ((0 ≤ v1 ∧ v1 ≤ 1) → ((0 ≤ v2 ∧ v2 ≤ 3) → ((¬ (0 ≤ v3 ∧ v3 ≤ 11)) → Q (some (vI (-1002))) h) ∧ ((0 ≤ v3 ∧ v3 ≤ 11) → (inI (12 - v3)) ∧ ((¬ (1 ≤ v4 ∧ v4 ≤ (12 - v3))) → Q (some (vI (-1002))) h) ∧ ((1 ≤ v4 ∧ v4 ≤ (12 - v3)) → ((0 ≤ v5 ∧ v5 ≤ 7) → (inI (4 * v1)) ∧ (inI ((4 * v1) + v2)) ∧ (h v0 (-1) = 11) ∧ Runs G mm_X10_keys [vR v0, vI ((4 * v1) + v2), vI v3, vI v4, vI v5] h (fun r h' => AW G mm_X10_key (0, 0) 76 [(0, vR v0), (1, vI v1)] (r.toList ++ []) h' Q)) ∧ ((¬ (0 ≤ v5 ∧ v5 ≤ 7)) → Q (some (vI (-1002))) h)))) ∧ ((¬ (0 ≤ v2 ∧ v2 ≤ 3)) → Q (some (vI (-1001))) h))) : Runs G mm_X10_key [vR v0, vI v1, vI v2, vI v3, vI v4, vI v5] h Q := Runs.of (by decide +kernel) (Nat.le_of_ble_eq_true rfl) (sg_X10_key_0 (b := (0, 0)) k)
set_option maxRecDepth 20000 in
theorem sg_X10_key_76 {G : GG} {b : Nat × Nat} {Q : Option VV → Hp → Prop} {v0 v1 : Int} {h : Hp} (k : (h v0 (-1) = 11) ∧ Runs G mm_X10_keysOf [vR v0, vI v1] h (fun r h' => AW G mm_X10_key b 81 [] (r.toList ++ []) h' Q)) : AW G mm_X10_key b 76 [(0, vR v0), (1, vI v1)] [] h Q := by
  refine aw_aload_n 0 dX10_key_76 rfl rfl ?_
  refine aw_iload_n 1 dX10_key_77 rfl rfl ?_
  obtain ⟨o1, k⟩ := k
  refine aw_callV (M' := mm_X10_keysOf) 10 [vI v1] [] lk_X10_205 ⟨_, rfl, rfl⟩ dX10_key_78 rfl (Nat.le_of_ble_eq_true rfl) ⟨by decide, by decide, Nat.zero_le _, Nat.zero_le _⟩ o1 ?_
  exact k.mono (fun _ _ z => aw_sub [] rfl z)
set_option maxRecDepth 20000 in
theorem sg_X10_key_81 {G : GG} {b : Nat × Nat} {Q : Option VV → Hp → Prop} {s0 : Int} {h : Hp} (k : Q (some (vI s0)) h) : AW G mm_X10_key b 81 [] [vI s0] h Q := by
  exact aw_iret dX10_key_81 rfl k
set_option maxRecDepth 20000 in
theorem sg_X10_keys_0 {G : GG} {b : Nat × Nat} {Q : Option VV → Hp → Prop} {v0 v1 v2 v3 v4 : Int} {h : Hp} (k : (h v0 (-1) = 11) ∧ (h (h v0 1) (-1) = 20) ∧ (0 ≤ v1) ∧ (v1 < h (h v0 1) (-2)) ∧ ∀ h1, h1 = wr h (h v0 1) v1 v2 → (h (h v0 2) (-1) = 20) ∧ (v1 < h (h v0 2) (-2)) ∧ ∀ h2, h2 = wr h1 (h v0 2) v1 v3 → (h (h v0 3) (-1) = 20) ∧ (v1 < h (h v0 3) (-2)) ∧ ∀ h3, h3 = wr h2 (h v0 3) v1 v4 → Q none h3) : AW G mm_X10_keys b 0 [(0, vR v0), (1, vI v1), (2, vI v2), (3, vI v3), (4, vI v4)] [] h Q := by
  refine aw_aload_n 0 dX10_keys_0 rfl rfl ?_
  obtain ⟨o1, k⟩ := k
  refine aw_getR dX10_keys_1 fl_X10_13 rfl o1 (x := (h v0 1)) rfl ?_
  refine aw_iload_n 1 dX10_keys_4 rfl rfl ?_
  refine aw_iload_n 2 dX10_keys_5 rfl rfl ?_
  obtain ⟨o2, k⟩ := k
  obtain ⟨o3, k⟩ := k
  obtain ⟨o4, k⟩ := k
  refine aw_iast dX10_keys_6 o2 o3 o4 ?_
  refine aw_hp (fun h1 e5 => ?_)
  have k := k h1 e5
  refine aw_aload_n 0 dX10_keys_7 rfl rfl ?_
  have q6 := sh_w e5 o3 o1
  refine aw_getR dX10_keys_8 fl_X10_16 rfl q6 (x := (h v0 2)) (rd_a e5 v0 2 (ne_sh o2 o1 (by decide))) ?_
  refine aw_iload_n 1 dX10_keys_11 rfl rfl ?_
  refine aw_iload_n 3 dX10_keys_12 rfl rfl ?_
  obtain ⟨o7, k⟩ := k
  obtain ⟨o8, k⟩ := k
  have q9 := sh_w e5 o3 o7
  refine aw_iast dX10_keys_13 q9 o3 (lt_l (ln_w e5 (h v0 2) o3) o8) ?_
  refine aw_hp (fun h2 e10 => ?_)
  have k := k h2 e10
  refine aw_aload_n 0 dX10_keys_14 rfl rfl ?_
  have q11 := sh_w e10 o3 q6
  refine aw_getR dX10_keys_15 fl_X10_19 rfl q11 (x := (h v0 3)) ((rd_a e10 v0 3 (ne_sh q9 q6 (by decide))).trans (rd_a e5 v0 3 (ne_sh o2 o1 (by decide)))) ?_
  refine aw_iload_n 1 dX10_keys_18 rfl rfl ?_
  refine aw_iload 4 dX10_keys_19 rfl ?_
  obtain ⟨o12, k⟩ := k
  obtain ⟨o13, k⟩ := k
  have q14 := sh_w e5 o3 o12
  have q15 := sh_w e10 o3 q14
  refine aw_iast dX10_keys_21 q15 o3 (lt_l ((ln_w e10 (h v0 3) o3).trans (ln_w e5 (h v0 3) o3)) o13) ?_
  refine aw_hp (fun h3 e16 => ?_)
  have k := k h3 e16
  exact aw_vret dX10_keys_22 rfl k
theorem rn_X10_keys {G : GG} {Q : Option VV → Hp → Prop} {v0 v1 v2 v3 v4 : Int} {h : Hp} (k : (h v0 (-1) = 11) ∧ (h (h v0 1) (-1) = 20) ∧ (0 ≤ v1) ∧ (v1 < h (h v0 1) (-2)) ∧ ∀ h1, h1 = wr h (h v0 1) v1 v2 → (h (h v0 2) (-1) = 20) ∧ (v1 < h (h v0 2) (-2)) ∧ ∀ h2, h2 = wr h1 (h v0 2) v1 v3 → (h (h v0 3) (-1) = 20) ∧ (v1 < h (h v0 3) (-2)) ∧ ∀ h3, h3 = wr h2 (h v0 3) v1 v4 → Q none h3) : Runs G mm_X10_keys [vR v0, vI v1, vI v2, vI v3, vI v4] h Q := Runs.of (by decide +kernel) (Nat.le_of_ble_eq_true rfl) (sg_X10_keys_0 (b := (0, 0)) k)
set_option maxRecDepth 20000 in
theorem sg_X10_keysOf_0 {G : GG} {b : Nat × Nat} {Q : Option VV → Hp → Prop} {v0 v1 : Int} {h : Hp} (k : AW G mm_X10_keysOf b 4 [(0, vR v0), (1, vI v1), (2, vI 0), (3, vI 0)] [] h Q) : AW G mm_X10_keysOf b 0 [(0, vR v0), (1, vI v1)] [] h Q := by
  refine aw_iconst dX10_keysOf_0 ⟨by decide, by decide⟩ ?_
  refine aw_istore_n dX10_keysOf_1 rfl (by decide) ?_
  refine aw_iconst dX10_keysOf_2 ⟨by decide, by decide⟩ ?_
  refine aw_istore_n dX10_keysOf_3 rfl (by decide) ?_
  exact aw_sub [2, 3, 1, 0] rfl k
theorem rn_X10_keysOf {G : GG} {Q : Option VV → Hp → Prop} {v0 v1 : Int} {h : Hp} (k : AW G mm_X10_keysOf (0, 0) 4 [(0, vR v0), (1, vI v1), (2, vI 0), (3, vI 0)] [] h Q) : Runs G mm_X10_keysOf [vR v0, vI v1] h Q := Runs.of (by decide +kernel) (Nat.le_of_ble_eq_true rfl) (sg_X10_keysOf_0 (b := (0, 0)) k)
set_option maxRecDepth 20000 in
theorem sg_X10_keysOf_4 {G : GG} {b : Nat × Nat} {Q : Option VV → Hp → Prop} {v0 v1 v2 v3 : Int} {h : Hp} (k : ((4 ≤ v3) → Q (some (vI v2)) h) ∧ ((¬ (4 ≤ v3)) → (h v0 (-1) = 11) ∧ (inI (4 * v1)) ∧ (inI ((4 * v1) + v3)) ∧ (h (h v0 2) (-1) = 20) ∧ (0 ≤ ((4 * v1) + v3)) ∧ (((4 * v1) + v3) < h (h v0 2) (-2)) ∧ (((h (h v0 2) ((4 * v1) + v3)) ≤ 0) → (inI (v2 + 0)) ∧ (inI (v3 + 1)) ∧ AW G mm_X10_keysOf b 4 [(0, vR v0), (1, vI v1), (2, vI (v2 + 0)), (3, vI (v3 + 1))] [] h Q) ∧ ((¬ ((h (h v0 2) ((4 * v1) + v3)) ≤ 0)) → (inI (v2 + 1)) ∧ (inI (v3 + 1)) ∧ AW G mm_X10_keysOf b 4 [(0, vR v0), (1, vI v1), (2, vI (v2 + 1)), (3, vI (v3 + 1))] [] h Q))) : AW G mm_X10_keysOf b 4 [(0, vR v0), (1, vI v1), (2, vI v2), (3, vI v3)] [] h Q := by
  refine aw_iload_n 3 dX10_keysOf_4 rfl rfl ?_
  refine aw_iconst dX10_keysOf_5 ⟨by decide, by decide⟩ ?_
  refine aw_icmp_ge (tgt := 36) dX10_keysOf_6 (by decide) (fun hc => ?_) (fun hc => ?_)
  · have k := k.1 hc
    refine aw_iload_n 2 dX10_keysOf_36 rfl rfl ?_
    exact aw_iret dX10_keysOf_37 rfl k
  · have k := k.2 hc
    refine aw_iload_n 2 dX10_keysOf_9 rfl rfl ?_
    refine aw_aload_n 0 dX10_keysOf_10 rfl rfl ?_
    obtain ⟨o1, k⟩ := k
    refine aw_getR dX10_keysOf_11 fl_X10_16 rfl o1 (x := (h v0 2)) rfl ?_
    refine aw_iconst dX10_keysOf_14 ⟨by decide, by decide⟩ ?_
    refine aw_iload_n 1 dX10_keysOf_15 rfl rfl ?_
    obtain ⟨o2, k⟩ := k
    refine aw_imul dX10_keysOf_16 o2 ?_
    refine aw_iload_n 3 dX10_keysOf_17 rfl rfl ?_
    obtain ⟨o3, k⟩ := k
    refine aw_iadd dX10_keysOf_18 o3 ?_
    obtain ⟨o4, k⟩ := k
    obtain ⟨o5, k⟩ := k
    obtain ⟨o6, k⟩ := k
    refine aw_iald dX10_keysOf_19 o4 o5 o6 (x := (h (h v0 2) ((4 * v1) + v3))) rfl ?_
    refine aw_if_le (tgt := 27) dX10_keysOf_20 (by decide) (fun hc => ?_) (fun hc => ?_)
    · have k := k.1 hc
      refine aw_iconst dX10_keysOf_27 ⟨by decide, by decide⟩ ?_
      obtain ⟨o7, k⟩ := k
      refine aw_iadd dX10_keysOf_28 o7 ?_
      refine aw_istore_n dX10_keysOf_29 rfl (by decide) ?_
      obtain ⟨o8, k⟩ := k
      refine aw_iinc 3 dX10_keysOf_30 rfl o8 (by decide) ?_
      refine aw_goto (tgt := 4) dX10_keysOf_33 (by decide) ?_
      exact aw_sub [2, 3, 1, 0] rfl k
    · have k := k.2 hc
      refine aw_iconst dX10_keysOf_23 ⟨by decide, by decide⟩ ?_
      refine aw_goto (tgt := 28) dX10_keysOf_24 (by decide) ?_
      obtain ⟨o9, k⟩ := k
      refine aw_iadd dX10_keysOf_28 o9 ?_
      refine aw_istore_n dX10_keysOf_29 rfl (by decide) ?_
      obtain ⟨o10, k⟩ := k
      refine aw_iinc 3 dX10_keysOf_30 rfl o10 (by decide) ?_
      refine aw_goto (tgt := 4) dX10_keysOf_33 (by decide) ?_
      exact aw_sub [2, 3, 1, 0] rfl k
