/-! small rows that the printed segments use -/
theorem wr_e {h : Hp} {a k v : Int} : wr h a k v a k = v := by simp [wr]
theorem wr_k {h : Hp} {a k j v : Int} (hj : j ≠ k) : wr h a k v a j = h a j := by simp [wr, hj]
theorem wr_a {h : Hp} {a b k j v : Int} (hb : b ≠ a) : wr h a k v b j = h b j := by simp [wr, hb]
theorem wr_s {h : Hp} {a b k v : Int} (hk : 0 ≤ k) : wr h a k v b (-1) = h b (-1) := by
  unfold wr
  rw [if_neg (by omega)]
theorem wr_l {h : Hp} {a b k v : Int} (hk : 0 ≤ k) : wr h a k v b (-2) = h b (-2) := by
  unfold wr
  rw [if_neg (by omega)]
theorem ne_sh {h : Hp} {a b ca cb : Int} (ha : h a (-1) = ca) (hb : h b (-1) = cb) (hc : ca ≠ cb) : b ≠ a := fun e => hc (by rw [← ha, ← hb, e])
theorem nw_s {h : Hp} {a c c' n j : Int} (oh : okH h) (hs : h a (-1) = c) (hc : c ≠ 0) : nw h c' n a j = h a j := by
  have h1 := oh.2.1 a (by omega)
  exact nw_off (by omega) h1.1
theorem nw_sn {h : Hp} {c n : Int} : nw h c n (h 0 0 + 1) (-1) = c := by rw [nw_new, if_pos rfl]
theorem nw_ln {h : Hp} {c n : Int} : nw h c n (h 0 0 + 1) (-2) = n := by rw [nw_new, if_neg (by decide), if_pos rfl]
theorem nw_z {h : Hp} {c n k : Int} (hk : 0 ≤ k) : nw h c n (h 0 0 + 1) k = 0 := by rw [nw_new, if_neg (by omega), if_neg (by omega)]
def b2i (p : Prop) [Decidable p] : Int := if p then 1 else 0
theorem b2i_0 {p : Prop} [Decidable p] : b2i p = 0 ↔ ¬ p := by
  unfold b2i
  split <;> simp [*]
theorem b2i_n {p : Prop} [Decidable p] : ¬ b2i p = 0 ↔ p := by
  unfold b2i
  split <;> simp [*]
theorem b2i_or {p : Prop} [Decidable p] : b2i p = 0 ∨ b2i p = 1 := by
  unfold b2i
  split <;> simp
theorem b2i_t {p : Prop} [Decidable p] (h : p) : b2i p = 1 := if_pos h
theorem b2i_f {p : Prop} [Decidable p] (h : ¬ p) : b2i p = 0 := if_neg h
