/-! small rows that the printed segments use -/
theorem wr_e {h : Hp} {a k v : Int} : wr h a k v a k = v := by simp [wr]
theorem wr_k {h : Hp} {a k j v : Int} (hj : j ≠ k) : wr h a k v a j = h a j := by simp [wr, hj]
theorem wr_a {h : Hp} {a b k j v : Int} (hb : b ≠ a) : wr h a k v b j = h b j := by simp [wr, hb]
theorem wr_s {h : Hp} {a b k v : Int} (hk : 0 ≤ k) : wr h a k v b (-1) = h b (-1) := by
  unfold wr
  rw [if_neg (by omega)]
theorem wr_l {h : Hp} {a b k v : Int} (hk : 0 ≤ k) : wr h a k v b (-2) = h b (-2) := by
  unfold wr
  rw [if_neg (by omega)]
theorem ne_sh {h : Hp} {a b ca cb : Int} (ha : h a (-1) = ca) (hb : h b (-1) = cb) (hc : ca ≠ cb) : b ≠ a := fun e => hc (by rw [← ha, ← hb, e])
theorem nw_s {h : Hp} {a c c' n j : Int} (oh : okH h) (hs : h a (-1) = c) (hc : c ≠ 0) : nw h c' n a j = h a j := by
  have h1 := oh.2.1 a (by omega)
  exact nw_off (by omega) h1.1
theorem rd_e {h h1 : Hp} {a k v : Int} (e : h1 = wr h a k v) : h1 a k = v := by rw [e]; exact wr_e
theorem rd_k {h h1 : Hp} {a k v : Int} (e : h1 = wr h a k v) (j : Int) (hj : j ≠ k) : h1 a j = h a j := by rw [e]; exact wr_k hj
theorem rd_a {h h1 : Hp} {a k v : Int} (e : h1 = wr h a k v) (b j : Int) (hb : b ≠ a) : h1 b j = h b j := by rw [e]; exact wr_a hb
theorem sh_w {h h1 : Hp} {a k v b c : Int} (e : h1 = wr h a k v) (hk : 0 ≤ k) (hs : h b (-1) = c) : h1 b (-1) = c := by rw [e, wr_s hk]; exact hs
theorem ln_w {h h1 : Hp} {a k v : Int} (e : h1 = wr h a k v) (b : Int) (hk : 0 ≤ k) : h1 b (-2) = h b (-2) := by rw [e]; exact wr_l hk
theorem sh_n {h h1 : Hp} {c' n b c : Int} (e : h1 = nw h c' n) (oh : okH h) (hs : h b (-1) = c) (hc : c ≠ 0) : h1 b (-1) = c := by rw [e, nw_s oh hs hc]; exact hs
theorem rd_n {h h1 : Hp} {c' n b c : Int} (e : h1 = nw h c' n) (oh : okH h) (hs : h b (-1) = c) (hc : c ≠ 0) (j : Int) : h1 b j = h b j := by rw [e, nw_s oh hs hc]
theorem sh_f {h h1 : Hp} {c n a : Int} (e : h1 = nw h c n) (ea : a = h 0 0 + 1) : h1 a (-1) = c := by rw [e, ea, nw_new, if_pos rfl]
theorem ln_f {h h1 : Hp} {c n a : Int} (e : h1 = nw h c n) (ea : a = h 0 0 + 1) : h1 a (-2) = n := by rw [e, ea, nw_new, if_neg (by decide), if_pos rfl]
theorem rd_f {h h1 : Hp} {c n a : Int} (e : h1 = nw h c n) (ea : a = h 0 0 + 1) (k : Int) (hk : 0 ≤ k) : h1 a k = 0 := by rw [e, ea, nw_new, if_neg (by omega), if_neg (by omega)]
theorem nz_s {h : Hp} {a c : Int} (oh : okH h) (hs : h a (-1) = c) (hc : c ≠ 0) : a ≠ 0 := by
  have h1 := oh.2.1 a (by omega)
  omega
theorem lt_l {h : Hp} {a x i : Int} (e : h a (-2) = x) (hi : i < x) : i < h a (-2) := by rw [e]; exact hi
def b2i (p : Prop) [Decidable p] : Int := if p then 1 else 0
theorem b2i_0 {p : Prop} [Decidable p] : b2i p = 0 ↔ ¬ p := by
  unfold b2i
  split <;> simp [*]
theorem b2i_n {p : Prop} [Decidable p] : ¬ b2i p = 0 ↔ p := by
  unfold b2i
  split <;> simp [*]
theorem b2i_or {p : Prop} [Decidable p] : b2i p = 0 ∨ b2i p = 1 := by
  unfold b2i
  split <;> simp
theorem b2i_t {p : Prop} [Decidable p] (h : p) : b2i p = 1 := if_pos h
theorem b2i_f {p : Prop} [Decidable p] (h : ¬ p) : b2i p = 0 := if_neg h
section AR8
variable {G : GG} {M : MT} {b : Nat × Nat} {pc : Nat} {ls : List (Nat × VV)} {st : List VV} {h : Hp} {Z : LZ}
theorem aw_hp (k : ∀ h1, h1 = h → AZ G M b pc ls st h1 Z) : AZ G M b pc ls st h Z := k _ rfl
theorem aw_hq {a : Int} (k : ∀ a1, a1 = a → ∀ h1, h1 = h → AZ G M b pc ls (vR a1 :: st) h1 Z) : AZ G M b pc ls (vR a :: st) h Z := k _ rfl _ rfl
end AR8
