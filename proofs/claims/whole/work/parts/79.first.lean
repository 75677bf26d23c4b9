/-! what holds at first -/
section ZI
variable {h0 H : Hp}
theorem rs_89 {k : Int} (R : RS 28 h0 H) (hr : h0 89 = ro 11 0 Zf) (hk : ∀ i : Nat, i < 28 → k ≠ (dx i).1) (k0 : 0 ≤ k) : H 89 k = 0 := by
  rw [R.2.2.2 k hk, hr, ro_k k0]
  rfl
theorem rs_90 (R : RS 28 h0 H) : H 90 = ro 20 24 Zf := (R.2.2.1 0 (by decide)).1
theorem rs_91 (R : RS 28 h0 H) : H 91 = ro 20 8 Zf := (R.2.2.1 1 (by decide)).1
theorem rs_92 (R : RS 28 h0 H) : H 92 = ro 20 8 Zf := (R.2.2.1 2 (by decide)).1
theorem rs_93 (R : RS 28 h0 H) : H 93 = ro 20 8 Zf := (R.2.2.1 3 (by decide)).1
theorem rs_94 (R : RS 28 h0 H) : H 94 = ro 20 4 Zf := (R.2.2.1 4 (by decide)).1
theorem rs_95 (R : RS 28 h0 H) : H 95 = ro 20 4 Zf := (R.2.2.1 5 (by decide)).1
theorem rs_96 (R : RS 28 h0 H) : H 96 = ro 20 4 Zf := (R.2.2.1 6 (by decide)).1
theorem rs_97 (R : RS 28 h0 H) : H 97 = ro 20 112 Zf := (R.2.2.1 7 (by decide)).1
theorem rs_98 (R : RS 28 h0 H) : H 98 = ro 20 4 Zf := (R.2.2.1 8 (by decide)).1
theorem rs_99 (R : RS 28 h0 H) : H 99 = ro 20 4 Zf := (R.2.2.1 9 (by decide)).1
theorem rs_100 (R : RS 28 h0 H) : H 100 = ro 20 12 Zf := (R.2.2.1 10 (by decide)).1
theorem rs_101 (R : RS 28 h0 H) : H 101 = ro 20 4 Zf := (R.2.2.1 11 (by decide)).1
theorem rs_102 (R : RS 28 h0 H) : H 102 = ro 20 4 Zf := (R.2.2.1 12 (by decide)).1
theorem rs_103 (R : RS 28 h0 H) : H 103 = ro 21 4 Zf := (R.2.2.1 13 (by decide)).1
theorem rs_104 (R : RS 28 h0 H) : H 104 = ro 20 4 Zf := (R.2.2.1 14 (by decide)).1
theorem rs_105 (R : RS 28 h0 H) : H 105 = ro 20 16 Zf := (R.2.2.1 15 (by decide)).1
theorem rs_106 (R : RS 28 h0 H) : H 106 = ro 20 4 Zf := (R.2.2.1 16 (by decide)).1
theorem rs_107 (R : RS 28 h0 H) : H 107 = ro 20 4 Zf := (R.2.2.1 17 (by decide)).1
theorem rs_108 (R : RS 28 h0 H) : H 108 = ro 20 2 dlf := (R.2.2.1 18 (by decide)).1
theorem rs_109 (R : RS 28 h0 H) : H 109 = ro 20 264 Zf := (R.2.2.1 19 (by decide)).1
theorem rs_110 (R : RS 28 h0 H) : H 110 = ro 20 6000 Zf := (R.2.2.1 20 (by decide)).1
theorem rs_111 (R : RS 28 h0 H) : H 111 = ro 20 2 Zf := (R.2.2.1 21 (by decide)).1
theorem rs_112 (R : RS 28 h0 H) : H 112 = ro 20 2 Zf := (R.2.2.1 22 (by decide)).1
theorem rs_113 (R : RS 28 h0 H) : H 113 = ro 20 6 Zf := (R.2.2.1 23 (by decide)).1
theorem rs_114 (R : RS 28 h0 H) : H 114 = ro 20 200 Zf := (R.2.2.1 24 (by decide)).1
theorem rs_115 (R : RS 28 h0 H) : H 115 = ro 20 5 Zf := (R.2.2.1 25 (by decide)).1
theorem rs_116 (R : RS 28 h0 H) : H 116 = ro 20 30 wdf := (R.2.2.1 26 (by decide)).1
theorem rs_117 (R : RS 28 h0 H) : H 117 = ro 20 11 Zf := (R.2.2.1 27 (by decide)).1
theorem st_0 (R : RS 28 h0 H) (hr : h0 89 = ro 11 0 Zf) : ST H := by
  refine ⟨?_, ?_, ?_, ?_, ?_, ?_, ?_, ?_, ?_, ?_, ?_, ?_, ?_, ?_, ?_, ?_, ?_, ?_, ?_, ?_, ?_, ?_, ?_, ?_, ?_, ?_, ?_, ?_, ?_, ?_, ?_, ?_, ?_, ?_, ?_, ?_, ?_, ?_, ?_, ?_, ?_, ?_, ?_, ?_, ?_, ?_, ?_, ?_, ?_, ?_, ?_, ?_, ?_, ?_, ?_, ?_, ?_, ?_, ?_, ?_, ?_, ?_, ?_, ?_, ?_, ?_, ?_, ?_, ?_, ?_, ?_, ?_, ?_, ?_, ?_, ?_, ?_, ?_, ?_, ?_, ?_, ?_, ?_, ?_, ?_, ?_, ?_, ?_, ?_, ?_, ?_, ?_, ?_, ?_, ?_, ?_, ?_, ?_, ?_, ?_, ?_, ?_, ?_, ?_, ?_, ?_, ?_, ?_, ?_, ?_, ?_, ?_, ?_, ?_, ?_⟩
  · rw [R.2.2.2 (-1) (by decide +kernel), hr]
    exact ro_s
  · exact (R.2.2.1 0 (by decide)).2
  · exact (R.2.2.1 1 (by decide)).2
  · exact (R.2.2.1 2 (by decide)).2
  · exact (R.2.2.1 3 (by decide)).2
  · exact (R.2.2.1 4 (by decide)).2
  · exact (R.2.2.1 5 (by decide)).2
  · exact (R.2.2.1 6 (by decide)).2
  · exact (R.2.2.1 7 (by decide)).2
  · exact (R.2.2.1 8 (by decide)).2
  · exact (R.2.2.1 9 (by decide)).2
  · exact (R.2.2.1 10 (by decide)).2
  · exact (R.2.2.1 11 (by decide)).2
  · exact (R.2.2.1 12 (by decide)).2
  · exact (R.2.2.1 13 (by decide)).2
  · exact (R.2.2.1 14 (by decide)).2
  · exact (R.2.2.1 15 (by decide)).2
  · exact (R.2.2.1 16 (by decide)).2
  · exact (R.2.2.1 17 (by decide)).2
  · exact (R.2.2.1 18 (by decide)).2
  · exact (R.2.2.1 19 (by decide)).2
  · exact (R.2.2.1 20 (by decide)).2
  · exact (R.2.2.1 21 (by decide)).2
  · exact (R.2.2.1 22 (by decide)).2
  · exact (R.2.2.1 23 (by decide)).2
  · exact (R.2.2.1 24 (by decide)).2
  · exact (R.2.2.1 25 (by decide)).2
  · exact (R.2.2.1 26 (by decide)).2
  · exact (R.2.2.1 27 (by decide)).2
  · rw [rs_90 R]
    rfl
  · rw [rs_90 R]
    rfl
  · rw [rs_91 R]
    rfl
  · rw [rs_91 R]
    rfl
  · rw [rs_92 R]
    rfl
  · rw [rs_92 R]
    rfl
  · rw [rs_93 R]
    rfl
  · rw [rs_93 R]
    rfl
  · rw [rs_94 R]
    rfl
  · rw [rs_94 R]
    rfl
  · rw [rs_95 R]
    rfl
  · rw [rs_95 R]
    rfl
  · rw [rs_96 R]
    rfl
  · rw [rs_96 R]
    rfl
  · rw [rs_97 R]
    rfl
  · rw [rs_97 R]
    rfl
  · rw [rs_98 R]
    rfl
  · rw [rs_98 R]
    rfl
  · rw [rs_99 R]
    rfl
  · rw [rs_99 R]
    rfl
  · rw [rs_100 R]
    rfl
  · rw [rs_100 R]
    rfl
  · rw [rs_101 R]
    rfl
  · rw [rs_101 R]
    rfl
  · rw [rs_102 R]
    rfl
  · rw [rs_102 R]
    rfl
  · rw [rs_103 R]
    rfl
  · rw [rs_103 R]
    rfl
  · rw [rs_104 R]
    rfl
  · rw [rs_104 R]
    rfl
  · rw [rs_105 R]
    rfl
  · rw [rs_105 R]
    rfl
  · rw [rs_106 R]
    rfl
  · rw [rs_106 R]
    rfl
  · rw [rs_107 R]
    rfl
  · rw [rs_107 R]
    rfl
  · rw [rs_108 R]
    rfl
  · rw [rs_108 R]
    rfl
  · rw [rs_109 R]
    rfl
  · rw [rs_109 R]
    rfl
  · rw [rs_110 R]
    rfl
  · rw [rs_110 R]
    rfl
  · rw [rs_111 R]
    rfl
  · rw [rs_111 R]
    rfl
  · rw [rs_112 R]
    rfl
  · rw [rs_112 R]
    rfl
  · rw [rs_113 R]
    rfl
  · rw [rs_113 R]
    rfl
  · rw [rs_114 R]
    rfl
  · rw [rs_114 R]
    rfl
  · rw [rs_115 R]
    rfl
  · rw [rs_115 R]
    rfl
  · rw [rs_116 R]
    rfl
  · rw [rs_116 R]
    rfl
  · rw [rs_117 R]
    rfl
  · rw [rs_117 R]
    rfl
  · rw [rs_116 R]
    rfl
  · rw [rs_116 R]
    rfl
  · rw [rs_116 R]
    rfl
  · rw [rs_116 R]
    rfl
  · rw [rs_116 R]
    rfl
  · rw [rs_116 R]
    rfl
  · rw [rs_116 R]
    rfl
  · rw [rs_116 R]
    rfl
  · rw [rs_116 R]
    rfl
  · rw [rs_116 R]
    rfl
  · rw [rs_116 R]
    rfl
  · rw [rs_116 R]
    rfl
  · rw [rs_116 R]
    rfl
  · rw [rs_116 R]
    rfl
  · rw [rs_116 R]
    rfl
  · rw [rs_116 R]
    rfl
  · rw [rs_116 R]
    rfl
  · rw [rs_116 R]
    rfl
  · rw [rs_116 R]
    rfl
  · rw [rs_116 R]
    rfl
  · rw [rs_116 R]
    rfl
  · rw [rs_116 R]
    rfl
  · rw [rs_116 R]
    rfl
  · rw [rs_116 R]
    rfl
  · rw [rs_116 R]
    rfl
  · rw [rs_116 R]
    rfl
  · rw [rs_116 R]
    rfl
  · rw [rs_116 R]
    rfl
  · rw [rs_116 R]
    rfl
  · rw [rs_116 R]
    rfl
set_option maxHeartbeats 4000000 in
theorem iv_0 (R : RS 28 h0 H) (hr : h0 89 = ro 11 0 Zf) : IV H 0 0 := by
  have z : ∀ k, 0 ≤ k → (∀ i : Nat, i < 28 → k ≠ (dx i).1) → H 89 k = 0 := fun k k0 hk => rs_89 R hr hk k0
  have zr : ∀ (c n : Int) (x : Int), 0 ≤ x → ro c n Zf x = 0 := fun c n x x0 => by rw [ro_k x0]; rfl
  refine ⟨st_0 R hr, ⟨by decide, by decide, by decide, by decide⟩, fun i i0 i1 => ?_, fun i i0 i1 => ?_, fun e e0 e1 => ?_, fun e i e0 e1 i0 i1 => ?_, fun e i e0 e1 i0 i1 => ?_, fun e e0 e1 => ?_, fun l l0 l1 => ?_, ?_, fun j j0 j1 => ?_, ?_⟩
  · rw [rs_90 R, zr _ _ _ i0]
    decide
  · rw [rs_92 R, zr _ _ _ i0]
    exact ⟨by decide, fun q => absurd rfl q⟩
  · rw [rs_94 R, rs_95 R, rs_96 R, rs_98 R, rs_99 R, rs_101 R, rs_102 R, rs_103 R, rs_104 R, rs_106 R, rs_107 R]
    simp only [zr _ _ _ e0]
    decide
  · rw [rs_96 R, zr _ _ _ e0] at i1
    omega
  · rw [rs_99 R, zr _ _ _ e0] at i1
    omega
  · rw [rs_104 R, zr _ _ _ e0]
    exact ⟨fun q => absurd q (by decide), fun q => absurd q (by decide)⟩
  · rw [rs_108 R, ro_k l0]
    rcases (show l = 0 ∨ l = 1 by omega) with rfl | rfl <;> decide
  · unfold Iq
    rw [z 21 (by decide) (by decide +kernel), z 19 (by decide) (by decide +kernel), z 22 (by decide) (by decide +kernel), z 28 (by decide) (by decide +kernel), z 29 (by decide) (by decide +kernel)]
    exact ⟨by decide, by decide, by decide, by decide, by decide, fun i i0 i1 => by omega, fun i j i0 i1 i2 => by omega⟩
  · rw [rs_111 R, rs_112 R, rs_96 R, rs_99 R]
    simp only [zr _ _ _ j0, zr _ _ _ (show 0 ≤ j + 2 by omega)]
    decide
  · unfold Ix
    rw [z 31 (by decide) (by decide +kernel)]
    exact ⟨by decide, by decide, fun i i0 i1 => by omega⟩
set_option maxHeartbeats 8000000 in
theorem cr_0 (R : RS 28 h0 H) (hr : h0 89 = ro 11 0 Zf) (r1 : H 1 = O1) (r2 : H 2 = ro 32 2 (fun x => if 0 ≤ x ∧ x < 2 then 35 + 7 * x else 0)) (r3 : H 3 = ro 31 4 (fun x => if 0 ≤ x ∧ x < 4 then 49 + 10 * x else 0)) (ci : CI H) (hi : ∀ j, 0 ≤ j → j < 2 → HI H (35 + 7 * j)) (ei : ∀ e, 0 ≤ e → e < 4 → EI H e) : CR H 0 H H := by
  have z : ∀ k, 0 ≤ k → (∀ i : Nat, i < 28 → k ≠ (dx i).1) → H 89 k = 0 := fun k k0 hk => rs_89 R hr hk k0
  have zr : ∀ (c n : Int) (x : Int), 0 ≤ x → ro c n Zf x = 0 := fun c n x x0 => by rw [ro_k x0]; rfl
  have top : H 0 0 = 117 := R.1
  obtain ⟨⟨w4, w5, w6, w7, w8⟩, t1, t2, t3⟩ := ci
  refine ⟨⟨⟨fun _ _ _ => rfl, rfl, fun _ _ => rfl⟩, rfl⟩, ?_, ?_, ?_, ?_, ?_, ?_, ?_, ?_, ?_, ?_, ?_, ?_, ?_⟩
  · refine ⟨?_, ?_, ?_, ?_, ?_, ?_, fun j j0 j1 => ?_, fun j k j0 j1 k0 k1 => ?_, fun e e0 e1 => ?_, fun a a0 a1 => ?_, fun a a0 a1 a2 => ?_⟩
    · rw [r1]
      exact ⟨rfl, rfl, rfl, rfl, rfl⟩
    · rw [r2]
      exact ⟨rfl, rfl⟩
    · rw [r3]
      exact ⟨rfl, rfl⟩
    · rw [w4]
      exact ⟨rfl, rfl, rfl, rfl⟩
    · rw [w5, w6, w7]
      exact ⟨rfl, rfl, rfl, rfl, rfl⟩
    · rw [t1, t2, t3]
      exact ⟨rfl, rfl, rfl, rfl, rfl, rfl, rfl⟩
    · obtain ⟨a1, a2, a3, a4⟩ := hi j j0 j1
      rw [show 36 + 7 * j = 35 + 7 * j + 1 by omega, show 37 + 7 * j = 35 + 7 * j + 2 by omega, a1, a2, a3, r2, ro_k j0, ro_s, ro_s, ro_l, ro_s, ro_l, ro_k (by decide), ro_k (by decide)]
      exact ⟨if_pos ⟨j0, j1⟩, rfl, rfl, rfl, rfl, rfl, rfl, rfl⟩
    · obtain ⟨a1, a2, a3, a4⟩ := hi j j0 j1
      rw [show 38 + 7 * j + k = 35 + 7 * j + 3 + k by omega, show 37 + 7 * j = 35 + 7 * j + 2 by omega, a3, a4 k k0 k1, ro_k k0, ro_s]
      exact ⟨if_pos ⟨k0, k1⟩, rfl⟩
    · obtain ⟨a1, a2, a3, a4, a5, a6, a7⟩ := ei e e0 e1
      rw [show 50 + 10 * e = 49 + 10 * e + 1 by omega, show 51 + 10 * e = 49 + 10 * e + 2 by omega, show 52 + 10 * e = 49 + 10 * e + 3 by omega, show 53 + 10 * e = 49 + 10 * e + 4 by omega, show 54 + 10 * e = 49 + 10 * e + 5 by omega, a1, a2, a3, a4, a5, a6, r3, ro_k e0]
      exact ⟨if_pos ⟨e0, e1⟩, rfl, rfl, rfl, rfl, rfl, rfl, rfl, rfl, rfl, rfl, rfl, rfl, rfl, rfl, rfl, rfl, rfl, rfl⟩
    · have := w8 (a - 8) (by omega) (by omega)
      rw [show 8 + (a - 8) = a by omega] at this
      rw [this]
      rfl
    · have := (ei ((a - 55) / 10) (by omega) (by omega)).2.2.2.2.2.2 ((a - 55) % 10) (by omega) a2
      rw [show 49 + 10 * ((a - 55) / 10) + 6 + (a - 55) % 10 = a by omega] at this
      rw [this]
      rfl
  · refine ⟨by omega, ?_⟩
    rw [top, rs_96 R, rs_99 R]
    decide
  · intro j c j0 j1 c0 c1
    obtain ⟨a1, a2, a3, a4⟩ := hi j j0 j1
    rw [show 36 + 7 * j = 35 + 7 * j + 1 by omega, a2, rs_90 R, zr _ _ _ c0, zr _ _ _ (by omega)]
  · intro j k j0 j1 k0 k1
    obtain ⟨a1, a2, a3, a4⟩ := hi j j0 j1
    rw [show 38 + 7 * j + k = 35 + 7 * j + 3 + k by omega, a4 k k0 k1, rs_92 R, zr _ _ _ (show 0 ≤ 4 * j + k by omega)]
    exact ⟨fun _ => rfl, fun q => absurd rfl q⟩
  · intro e e0 e1
    obtain ⟨a1, a2, a3, a4, a5, a6, a7⟩ := ei e e0 e1
    rw [show 52 + 10 * e = 49 + 10 * e + 3 by omega, a1, a4, rs_94 R, rs_95 R, rs_96 R, rs_98 R, rs_99 R, rs_101 R, rs_102 R, rs_103 R, rs_104 R, rs_106 R, rs_107 R]
    simp only [zr _ _ _ e0]
    exact ⟨rfl, rfl, rfl, rfl, rfl, rfl, rfl, rfl, rfl, rfl, rfl⟩
  · intro e e0 e1
    obtain ⟨a1, a2, a3, a4, a5, a6, a7⟩ := ei e e0 e1
    have o : H 96 e = 0 := by rw [rs_96 R, zr _ _ _ e0]
    have row : ∀ i, 0 ≤ i → i < 4 → H (50 + 10 * e) i = 55 + 10 * e + i := fun i i0 i1 => by
      rw [show 50 + 10 * e = 49 + 10 * e + 1 by omega, a2, ro_k i0, if_pos ⟨i0, i1⟩]
      omega
    rw [o]
    refine ⟨⟨by decide, by decide, by show (0 : Int) ≤ 2; decide⟩, fun i i0 i1 => by rw [row i i0 i1]; omega, fun i j i0 i1 j1 => by rw [row i i0 (by omega), row j (by omega) j1]; omega, fun i k i0 i1 => by omega⟩
  · intro e i e0 e1 i0 i1
    rw [rs_99 R, zr _ _ _ e0] at i1
    omega
  · intro e i e0 e1 i0 i1
    rw [rs_104 R, zr _ _ _ e0] at i1
    omega
  · have u : H 89 21 = 0 := z 21 (by decide) (by decide +kernel)
    have row : ∀ i, 0 ≤ i → i < 24 → H 5 i = 8 + i := fun i i0 i1 => by
      rw [w5, ro_k i0]
      exact if_pos ⟨i0, i1⟩
    rw [Cp, u, z 29 (by decide) (by decide +kernel), z 19 (by decide) (by decide +kernel), w4, w7, rs_108 R]
    refine ⟨⟨rfl, rfl, rfl⟩, by decide, fun l l0 l1 => ?_, fun i i0 i1 => by rw [row i i0 i1]; omega, fun i j i0 i1 j1 => by rw [row i i0 (by omega), row j (by omega) j1]; omega, fun i i0 i1 => by omega⟩
    rcases (show l = 0 ∨ l = 1 by omega) with rfl | rfl <;> rfl
  · have a0 := (hi 0 (by decide) (by decide)).1
    have a1 := (hi 1 (by decide) (by decide)).1
    have a0 : H 35 = _ := a0
    have a1 : H 42 = _ := a1
    rw [Cd, a0, a1, z 28 (by decide) (by decide +kernel)]
    decide
  · intro j j0 j1
    obtain ⟨a1, a2, a3, a4⟩ := hi j j0 j1
    have e1 : H 111 j = 0 := by rw [rs_111 R, zr _ _ _ j0]
    have e2 : H 112 j = 0 := by rw [rs_112 R, zr _ _ _ j0]
    rw [e1, e2, a1]
    refine ⟨rfl, fun _ => 0, ?_⟩
    rw [Ch, e1, e2, a1]
    exact ⟨fun i i0 i1 => by omega, fun i i' i0 i1 i2 => by omega, rfl, rfl⟩
  · rw [Cl, z 27 (by decide) (by decide +kernel), r1]
    exact ⟨fun _ => rfl, fun q => absurd rfl q⟩
  · rw [Cx, z 31 (by decide) (by decide +kernel), t1]
    exact ⟨rfl, fun i i0 i1 => by omega⟩
end ZI
