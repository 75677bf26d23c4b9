/-! the reference: its memory, rows 89 .. 117 -/
def mg (g σ : Hp) : Hp := fun a => if 89 ≤ a ∧ a ≤ 117 then σ a else g a
theorem mg_in {g σ : Hp} {a : Int} (h1 : 89 ≤ a) (h2 : a ≤ 117) : mg g σ a = σ a := if_pos ⟨h1, h2⟩
theorem mg_out {g σ : Hp} {a : Int} (h : a < 89 ∨ 117 < a) : mg g σ a = g a := if_neg (by omega)
theorem mg_wr {g σ : Hp} {a k v : Int} (h1 : 89 ≤ a) (h2 : a ≤ 117) : wr (mg g σ) a k v = mg g (wr σ a k v) := by
  funext b j
  unfold wr mg
  by_cases hb : 89 ≤ b ∧ b ≤ 117
  · simp only [hb, and_self, if_true]
  · simp only [hb, if_false]
    rw [if_neg (by omega)]
/-- what never changes of it -/
abbrev ST (σ : Hp) : Prop := σ 89 (-1) = 11 ∧ σ 89 0 = 90 ∧ σ 89 1 = 91 ∧ σ 89 2 = 92 ∧ σ 89 3 = 93 ∧ σ 89 4 = 94 ∧ σ 89 5 = 95 ∧ σ 89 6 = 96 ∧ σ 89 7 = 97 ∧ σ 89 8 = 98 ∧ σ 89 9 = 99 ∧ σ 89 10 = 100 ∧ σ 89 11 = 101 ∧ σ 89 12 = 102 ∧ σ 89 13 = 103 ∧ σ 89 14 = 104 ∧ σ 89 15 = 105 ∧ σ 89 16 = 106 ∧ σ 89 17 = 107 ∧ σ 89 18 = 108 ∧ σ 89 20 = 109 ∧ σ 89 23 = 110 ∧ σ 89 24 = 111 ∧ σ 89 25 = 112 ∧ σ 89 26 = 113 ∧ σ 89 30 = 114 ∧ σ 89 36 = 115 ∧ σ 89 37 = 116 ∧ σ 89 38 = 117 ∧ σ 90 (-1) = 20 ∧ σ 90 (-2) = 24 ∧ σ 91 (-1) = 20 ∧ σ 91 (-2) = 8 ∧ σ 92 (-1) = 20 ∧ σ 92 (-2) = 8 ∧ σ 93 (-1) = 20 ∧ σ 93 (-2) = 8 ∧ σ 94 (-1) = 20 ∧ σ 94 (-2) = 4 ∧ σ 95 (-1) = 20 ∧ σ 95 (-2) = 4 ∧ σ 96 (-1) = 20 ∧ σ 96 (-2) = 4 ∧ σ 97 (-1) = 20 ∧ σ 97 (-2) = 112 ∧ σ 98 (-1) = 20 ∧ σ 98 (-2) = 4 ∧ σ 99 (-1) = 20 ∧ σ 99 (-2) = 4 ∧ σ 100 (-1) = 20 ∧ σ 100 (-2) = 12 ∧ σ 101 (-1) = 20 ∧ σ 101 (-2) = 4 ∧ σ 102 (-1) = 20 ∧ σ 102 (-2) = 4 ∧ σ 103 (-1) = 21 ∧ σ 103 (-2) = 4 ∧ σ 104 (-1) = 20 ∧ σ 104 (-2) = 4 ∧ σ 105 (-1) = 20 ∧ σ 105 (-2) = 16 ∧ σ 106 (-1) = 20 ∧ σ 106 (-2) = 4 ∧ σ 107 (-1) = 20 ∧ σ 107 (-2) = 4 ∧ σ 108 (-1) = 20 ∧ σ 108 (-2) = 2 ∧ σ 109 (-1) = 20 ∧ σ 109 (-2) = 264 ∧ σ 110 (-1) = 20 ∧ σ 110 (-2) = 6000 ∧ σ 111 (-1) = 20 ∧ σ 111 (-2) = 2 ∧ σ 112 (-1) = 20 ∧ σ 112 (-2) = 2 ∧ σ 113 (-1) = 20 ∧ σ 113 (-2) = 6 ∧ σ 114 (-1) = 20 ∧ σ 114 (-2) = 200 ∧ σ 115 (-1) = 20 ∧ σ 115 (-2) = 5 ∧ σ 116 (-1) = 20 ∧ σ 116 (-2) = 30 ∧ σ 117 (-1) = 20 ∧ σ 117 (-2) = 11 ∧ σ 116 0 = 97 ∧ σ 116 1 = 108 ∧ σ 116 2 = 108 ∧ σ 116 3 = 0 ∧ σ 116 4 = 0 ∧ σ 116 5 = 107 ∧ σ 116 6 = 101 ∧ σ 116 7 = 121 ∧ σ 116 8 = 0 ∧ σ 116 9 = 0 ∧ σ 116 10 = 99 ∧ σ 116 11 = 101 ∧ σ 116 12 = 108 ∧ σ 116 13 = 108 ∧ σ 116 14 = 0 ∧ σ 116 15 = 100 ∧ σ 116 16 = 101 ∧ σ 116 17 = 108 ∧ σ 116 18 = 97 ∧ σ 116 19 = 121 ∧ σ 116 20 = 97 ∧ σ 116 21 = 105 ∧ σ 116 22 = 109 ∧ σ 116 23 = 0 ∧ σ 116 24 = 0 ∧ σ 116 25 = 106 ∧ σ 116 26 = 111 ∧ σ 116 27 = 105 ∧ σ 116 28 = 110 ∧ σ 116 29 = 0
theorem ST_of {σ τ : Hp} (hT : ST σ) (h1 : ∀ a, τ a (-1) = σ a (-1)) (h2 : ∀ a, τ a (-2) = σ a (-2)) (h3 : ∀ k, σ 89 k ≠ 0 → k < 19 → 0 ≤ k → τ 89 k = σ 89 k) (h4 : ∀ k, k = 20 ∨ k = 23 ∨ k = 24 ∨ k = 25 ∨ k = 26 ∨ k = 30 ∨ k = 36 ∨ k = 37 ∨ k = 38 → τ 89 k = σ 89 k) (h5 : ∀ j, 0 ≤ j → τ 116 j = σ 116 j) : ST τ := by
  obtain ⟨t0, t1, t2, t3, t4, t5, t6, t7, t8, t9, t10, t11, t12, t13, t14, t15, t16, t17, t18, t19, t20, t21, t22, t23, t24, t25, t26, t27, t28, t29, t30, t31, t32, t33, t34, t35, t36, t37, t38, t39, t40, t41, t42, t43, t44, t45, t46, t47, t48, t49, t50, t51, t52, t53, t54, t55, t56, t57, t58, t59, t60, t61, t62, t63, t64, t65, t66, t67, t68, t69, t70, t71, t72, t73, t74, t75, t76, t77, t78, t79, t80, t81, t82, t83, t84, t85, t86, t87, t88, t89, t90, t91, t92, t93, t94, t95, t96, t97, t98, t99, t100, t101, t102, t103, t104, t105, t106, t107, t108, t109, t110, t111, t112, t113, t114⟩ := hT
  refine ⟨?_, ?_, ?_, ?_, ?_, ?_, ?_, ?_, ?_, ?_, ?_, ?_, ?_, ?_, ?_, ?_, ?_, ?_, ?_, ?_, ?_, ?_, ?_, ?_, ?_, ?_, ?_, ?_, ?_, ?_, ?_, ?_, ?_, ?_, ?_, ?_, ?_, ?_, ?_, ?_, ?_, ?_, ?_, ?_, ?_, ?_, ?_, ?_, ?_, ?_, ?_, ?_, ?_, ?_, ?_, ?_, ?_, ?_, ?_, ?_, ?_, ?_, ?_, ?_, ?_, ?_, ?_, ?_, ?_, ?_, ?_, ?_, ?_, ?_, ?_, ?_, ?_, ?_, ?_, ?_, ?_, ?_, ?_, ?_, ?_, ?_, ?_, ?_, ?_, ?_, ?_, ?_, ?_, ?_, ?_, ?_, ?_, ?_, ?_, ?_, ?_, ?_, ?_, ?_, ?_, ?_, ?_, ?_, ?_, ?_, ?_, ?_, ?_, ?_, ?_⟩
  · rw [h1]; exact t0
  · rw [h3 0 (by rw [t1]; decide) (by decide) (by decide)]; exact t1
  · rw [h3 1 (by rw [t2]; decide) (by decide) (by decide)]; exact t2
  · rw [h3 2 (by rw [t3]; decide) (by decide) (by decide)]; exact t3
  · rw [h3 3 (by rw [t4]; decide) (by decide) (by decide)]; exact t4
  · rw [h3 4 (by rw [t5]; decide) (by decide) (by decide)]; exact t5
  · rw [h3 5 (by rw [t6]; decide) (by decide) (by decide)]; exact t6
  · rw [h3 6 (by rw [t7]; decide) (by decide) (by decide)]; exact t7
  · rw [h3 7 (by rw [t8]; decide) (by decide) (by decide)]; exact t8
  · rw [h3 8 (by rw [t9]; decide) (by decide) (by decide)]; exact t9
  · rw [h3 9 (by rw [t10]; decide) (by decide) (by decide)]; exact t10
  · rw [h3 10 (by rw [t11]; decide) (by decide) (by decide)]; exact t11
  · rw [h3 11 (by rw [t12]; decide) (by decide) (by decide)]; exact t12
  · rw [h3 12 (by rw [t13]; decide) (by decide) (by decide)]; exact t13
  · rw [h3 13 (by rw [t14]; decide) (by decide) (by decide)]; exact t14
  · rw [h3 14 (by rw [t15]; decide) (by decide) (by decide)]; exact t15
  · rw [h3 15 (by rw [t16]; decide) (by decide) (by decide)]; exact t16
  · rw [h3 16 (by rw [t17]; decide) (by decide) (by decide)]; exact t17
  · rw [h3 17 (by rw [t18]; decide) (by decide) (by decide)]; exact t18
  · rw [h3 18 (by rw [t19]; decide) (by decide) (by decide)]; exact t19
  · rw [h4 20 (by decide)]; exact t20
  · rw [h4 23 (by decide)]; exact t21
  · rw [h4 24 (by decide)]; exact t22
  · rw [h4 25 (by decide)]; exact t23
  · rw [h4 26 (by decide)]; exact t24
  · rw [h4 30 (by decide)]; exact t25
  · rw [h4 36 (by decide)]; exact t26
  · rw [h4 37 (by decide)]; exact t27
  · rw [h4 38 (by decide)]; exact t28
  · rw [h1]; exact t29
  · rw [h2]; exact t30
  · rw [h1]; exact t31
  · rw [h2]; exact t32
  · rw [h1]; exact t33
  · rw [h2]; exact t34
  · rw [h1]; exact t35
  · rw [h2]; exact t36
  · rw [h1]; exact t37
  · rw [h2]; exact t38
  · rw [h1]; exact t39
  · rw [h2]; exact t40
  · rw [h1]; exact t41
  · rw [h2]; exact t42
  · rw [h1]; exact t43
  · rw [h2]; exact t44
  · rw [h1]; exact t45
  · rw [h2]; exact t46
  · rw [h1]; exact t47
  · rw [h2]; exact t48
  · rw [h1]; exact t49
  · rw [h2]; exact t50
  · rw [h1]; exact t51
  · rw [h2]; exact t52
  · rw [h1]; exact t53
  · rw [h2]; exact t54
  · rw [h1]; exact t55
  · rw [h2]; exact t56
  · rw [h1]; exact t57
  · rw [h2]; exact t58
  · rw [h1]; exact t59
  · rw [h2]; exact t60
  · rw [h1]; exact t61
  · rw [h2]; exact t62
  · rw [h1]; exact t63
  · rw [h2]; exact t64
  · rw [h1]; exact t65
  · rw [h2]; exact t66
  · rw [h1]; exact t67
  · rw [h2]; exact t68
  · rw [h1]; exact t69
  · rw [h2]; exact t70
  · rw [h1]; exact t71
  · rw [h2]; exact t72
  · rw [h1]; exact t73
  · rw [h2]; exact t74
  · rw [h1]; exact t75
  · rw [h2]; exact t76
  · rw [h1]; exact t77
  · rw [h2]; exact t78
  · rw [h1]; exact t79
  · rw [h2]; exact t80
  · rw [h1]; exact t81
  · rw [h2]; exact t82
  · rw [h1]; exact t83
  · rw [h2]; exact t84
  · rw [h5 0 (by decide)]; exact t85
  · rw [h5 1 (by decide)]; exact t86
  · rw [h5 2 (by decide)]; exact t87
  · rw [h5 3 (by decide)]; exact t88
  · rw [h5 4 (by decide)]; exact t89
  · rw [h5 5 (by decide)]; exact t90
  · rw [h5 6 (by decide)]; exact t91
  · rw [h5 7 (by decide)]; exact t92
  · rw [h5 8 (by decide)]; exact t93
  · rw [h5 9 (by decide)]; exact t94
  · rw [h5 10 (by decide)]; exact t95
  · rw [h5 11 (by decide)]; exact t96
  · rw [h5 12 (by decide)]; exact t97
  · rw [h5 13 (by decide)]; exact t98
  · rw [h5 14 (by decide)]; exact t99
  · rw [h5 15 (by decide)]; exact t100
  · rw [h5 16 (by decide)]; exact t101
  · rw [h5 17 (by decide)]; exact t102
  · rw [h5 18 (by decide)]; exact t103
  · rw [h5 19 (by decide)]; exact t104
  · rw [h5 20 (by decide)]; exact t105
  · rw [h5 21 (by decide)]; exact t106
  · rw [h5 22 (by decide)]; exact t107
  · rw [h5 23 (by decide)]; exact t108
  · rw [h5 24 (by decide)]; exact t109
  · rw [h5 25 (by decide)]; exact t110
  · rw [h5 26 (by decide)]; exact t111
  · rw [h5 27 (by decide)]; exact t112
  · rw [h5 28 (by decide)]; exact t113
  · rw [h5 29 (by decide)]; exact t114
theorem st_wr {σ : Hp} {a k v : Int} (hT : ST σ) (ha : a ≠ 89) (ha2 : a ≠ 116) (hk : 0 ≤ k) : ST (wr σ a k v) :=
  ST_of hT (fun b => wr_s hk) (fun b => wr_l hk) (fun j _ _ _ => wr_a (Ne.symm ha)) (fun j _ => wr_a (Ne.symm ha)) (fun j _ => wr_a (Ne.symm ha2))
theorem st_wrS {σ : Hp} {k v : Int} (hT : ST σ) (hk : k = 19 ∨ k = 21 ∨ k = 22 ∨ k = 27 ∨ k = 28 ∨ k = 29 ∨ k = 31 ∨ k = 32 ∨ k = 33 ∨ k = 34 ∨ k = 35) : ST (wr σ 89 k v) :=
  ST_of hT (fun b => wr_s (by omega)) (fun b => wr_l (by omega)) (fun j _ _ _ => wr_k (by omega)) (fun j _ => wr_k (by omega)) (fun j _ => wr_a (by decide))
/-- a row's stretch out of another row's (or its own, as it was) -/
def cpx (σ : Hp) (a dst b src n : Int) : Hp := fun c j => if c = a ∧ dst ≤ j ∧ j < dst + n then σ b (j - dst + src) else σ c j
theorem cpx_0 {σ : Hp} {a dst b src : Int} : cpx σ a dst b src 0 = σ := by
  funext c j
  unfold cpx
  rw [if_neg (by omega)]
theorem cpx_off {σ : Hp} {a dst b src n c j : Int} (h : c ≠ a) : cpx σ a dst b src n c j = σ c j := by
  unfold cpx
  rw [if_neg (by omega)]
theorem cpx_in {σ : Hp} {a dst b src n j : Int} (h1 : dst ≤ j) (h2 : j < dst + n) : cpx σ a dst b src n a j = σ b (j - dst + src) := by
  unfold cpx
  rw [if_pos ⟨rfl, h1, h2⟩]
theorem cpx_out {σ : Hp} {a dst b src n c j : Int} (h : j < dst ∨ dst + n ≤ j) : cpx σ a dst b src n c j = σ c j := by
  unfold cpx
  rw [if_neg (by omega)]
/-- one more cell of the stretch -/
theorem cpx_s {σ : Hp} {a dst b src n : Int} (h0 : 0 ≤ n) (hs : b ≠ a ∨ dst < src ∨ src + n < dst ∨ dst = src) : wr (cpx σ a dst b src n) a (dst + n) (cpx σ a dst b src n b (src + n)) = cpx σ a dst b src (n + 1) := by
  have hv : cpx σ a dst b src n b (src + n) = σ b (src + n) := by
    unfold cpx
    split
    · rename_i hc
      obtain ⟨rfl, c1, c2⟩ := hc
      rcases hs with q | q | q | q
      · exact absurd rfl q
      · omega
      · omega
      · omega
    · rfl
  rw [hv]
  funext c j
  unfold wr
  by_cases hc : c = a ∧ j = dst + n
  · rw [if_pos hc]
    unfold cpx
    rw [if_pos (by omega), hc.2]
    congr 1
    omega
  · rw [if_neg hc]
    unfold cpx
    by_cases hd : c = a ∧ dst ≤ j ∧ j < dst + n
    · rw [if_pos hd, if_pos (by omega)]
    · rw [if_neg hd, if_neg (by omega)]
theorem st_cpx {σ : Hp} {a dst b src n : Int} (hT : ST σ) (ha : a ≠ 89) (ha2 : a ≠ 116) (hd : 0 ≤ dst) : ST (cpx σ a dst b src n) :=
  ST_of hT (fun c => cpx_out (by omega)) (fun c => cpx_out (by omega)) (fun j _ _ _ => cpx_off (Ne.symm ha)) (fun j _ => cpx_off (Ne.symm ha)) (fun j _ => cpx_off (Ne.symm ha2))
theorem mg_cpx {g σ : Hp} {a dst b src n : Int} (h1 : 89 ≤ a) (h2 : a ≤ 117) (h3 : 89 ≤ b) (h4 : b ≤ 117) : cpx (mg g σ) a dst b src n = mg g (cpx σ a dst b src n) := by
  funext c j
  unfold cpx
  by_cases hc : c = a ∧ dst ≤ j ∧ j < dst + n
  · rw [if_pos hc, mg_in h3 h4, hc.1, mg_in h1 h2]
    show _ = cpx σ a dst b src n a j
    rw [cpx_in hc.2.1 hc.2.2]
  · rw [if_neg hc]
    unfold mg
    split
    · dsimp only
      rw [if_neg hc]
    · rfl
