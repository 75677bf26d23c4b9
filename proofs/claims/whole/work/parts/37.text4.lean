/-! the reference: the rest of a clause -/
def M_c : List (Int × Int × (Hp → Int)) → Hp → Int × Hp
  | [], σ => (1, σ)
  | x :: t, σ => if (M_rd x.1 x.2.1 (x.2.2 σ) σ).1 = 0 then (0, (M_rd x.1 x.2.1 (x.2.2 σ) σ).2) else M_c t (M_rd x.1 x.2.1 (x.2.2 σ) σ).2
def spc (w : Int) : List (Int × Int × (Hp → Int)) := if w = 0 then [] else if w = 1 then [(0, 0, fun _ => 1), (1, 0, fun _ => 3), (2, 0, fun _ => 11), (3, 1, fun σ => 12 - σ 115 2), (4, 0, fun _ => 7)] else if w = 2 then [(0, 0, fun _ => 1), (1, 0, fun _ => 11), (2, 0, fun _ => 9999)] else if w = 3 then [(0, 0, fun _ => 1), (1, 1, fun _ => 9)] else if w = 4 then [(0, 0, fun _ => 3), (1, 0, fun _ => 3), (2, 0, fun _ => 11)] else [(0, 0, fun _ => 1)]
def M_rr (w : Int) (σ : Hp) : Int × Hp := M_c (spc w) σ
theorem rd_or {k lo hi : Int} {σ : Hp} : (M_rd k lo hi σ).1 = 0 ∨ (M_rd k lo hi σ).1 = 1 := by
  unfold M_rd
  (repeat' split) <;> first | exact Or.inl rfl | exact Or.inr rfl
theorem rd_st {k lo hi : Int} {σ : Hp} (hT : ST σ) (hX : Tx σ) (k0 : 0 ≤ k) : ST (M_rd k lo hi σ).2 ∧ Tx (M_rd k lo hi σ).2 := by
  obtain ⟨⟨x0, x1, x2, x3⟩, x4⟩ := id hX
  have e : ∀ v j, wr σ 115 k v 89 j = σ 89 j := fun v j => wr_a (by decide)
  have e2 : ∀ v, wr σ 115 k v 114 = σ 114 := fun v => wr_off (by decide)
  unfold M_rd
  (repeat' split) <;> first
    | exact ⟨hT, hX⟩
    | exact ⟨st_next (st_wr hT (by decide) (by decide) k0), tx_next (by rw [e]; omega) (by rw [e, e]; omega) (by rw [e]; omega) (by rw [e, e2]; exact x4)⟩
theorem rd_nm {k lo hi : Int} {σ : Hp} : (M_rd k lo hi σ).1 = 0 ∨ (lo ≤ (M_rd k lo hi σ).2 115 k ∧ (M_rd k lo hi σ).2 115 k ≤ hi) := by
  unfold M_rd
  (repeat' split) <;> first
    | exact Or.inl rfl
    | (refine Or.inr ?_
       show lo ≤ F_next (wr σ 115 k (nmH σ)) 115 k ∧ F_next (wr σ 115 k (nmH σ)) 115 k ≤ hi
       rw [next_off (by decide), wr_e]
       omega)
section RF
variable {G : GG} {b : Nat × Nat} {Q : Option VV → Hp → Prop} {g σ : Hp}
set_option maxHeartbeats 4000000 in
theorem L_rr95 {s0 : Int} (hT : ST σ) (hX : Tx σ) (hs : s0 = 0 ∨ s0 = 1) (hk : Q (some (vI (if s0 = 0 then (0, σ) else M_c [] σ).1)) (mg g (if s0 = 0 then (0, σ) else M_c [] σ).2)) : AW G mm_X10_readsRest b 95 [] [vI s0] (mg g σ) Q := by
  by_cases z : s0 = 0
  · rw [if_pos z] at hk
    refine sg_X10_readsRest_95 ?_
    try simp (disch := omega) only [mg_in, mg_wr, wr_a, wr_e, wr_k, wr_ww, hT, forall_eq, true_and, inI, Int.add_zero]
    (repeat' (refine And.intro ?_ ?_)) <;> intros <;> (repeat' (refine And.intro ?_ ?_)) <;> intros <;> (repeat' (refine And.intro ?_ ?_)) <;> intros <;> (repeat' (refine And.intro ?_ ?_)) <;> intros <;> (repeat' (refine And.intro ?_ ?_)) <;> intros <;> (repeat' (refine And.intro ?_ ?_)) <;> intros <;> (repeat' (refine And.intro ?_ ?_)) <;> intros <;> (repeat' (refine And.intro ?_ ?_)) <;> intros
    all_goals first | omega | exact hk | (rw [z]; exact hk)
  · rw [if_neg z] at hk
    have hk : Q (some (vI 1)) (mg g σ) := hk
    refine sg_X10_readsRest_95 ?_
    try simp (disch := omega) only [mg_in, mg_wr, wr_a, wr_e, wr_k, wr_ww, hT, forall_eq, true_and, inI, Int.add_zero]
    (repeat' (refine And.intro ?_ ?_)) <;> intros <;> (repeat' (refine And.intro ?_ ?_)) <;> intros <;> (repeat' (refine And.intro ?_ ?_)) <;> intros <;> (repeat' (refine And.intro ?_ ?_)) <;> intros <;> (repeat' (refine And.intro ?_ ?_)) <;> intros <;> (repeat' (refine And.intro ?_ ?_)) <;> intros <;> (repeat' (refine And.intro ?_ ?_)) <;> intros <;> (repeat' (refine And.intro ?_ ?_)) <;> intros
    all_goals first | omega | exact hk | (rw [show s0 = 1 by omega]; exact hk)
set_option maxHeartbeats 4000000 in
theorem L_rr84 {s0 : Int} (hT : ST σ) (hX : Tx σ) (hs : s0 = 0 ∨ s0 = 1) (hk : Q (some (vI (if s0 = 0 then (0, σ) else M_c [(4, 0, fun _ => 7)] σ).1)) (mg g (if s0 = 0 then (0, σ) else M_c [(4, 0, fun _ => 7)] σ).2)) : AW G mm_X10_readsRest b 84 [(0, vR 89)] [vI s0] (mg g σ) Q := by
  by_cases z : s0 = 0
  · rw [if_pos z] at hk
    refine sg_X10_readsRest_84 ?_
    try simp (disch := omega) only [mg_in, mg_wr, wr_a, wr_e, wr_k, wr_ww, hT, forall_eq, true_and, inI, Int.add_zero]
    (repeat' (refine And.intro ?_ ?_)) <;> intros <;> (repeat' (refine And.intro ?_ ?_)) <;> intros <;> (repeat' (refine And.intro ?_ ?_)) <;> intros <;> (repeat' (refine And.intro ?_ ?_)) <;> intros <;> (repeat' (refine And.intro ?_ ?_)) <;> intros <;> (repeat' (refine And.intro ?_ ?_)) <;> intros <;> (repeat' (refine And.intro ?_ ?_)) <;> intros <;> (repeat' (refine And.intro ?_ ?_)) <;> intros
    all_goals first | omega | exact hk | (rw [z]; exact hk)
  · rw [if_neg z] at hk
    have hR : Runs G mm_X10_reads [vR 89, vI 4, vI 0, vI 7] (mg g σ) (fun r h' => AW G mm_X10_readsRest b 95 [] (r.toList ++ []) h' Q) := by
      refine R_reads hT hX (by decide) (by decide) ?_
      obtain ⟨a1, a2⟩ := rd_st (k := 4) (lo := 0) (hi := 7) hT hX (by decide)
      exact L_rr95 a1 a2 rd_or hk
    refine sg_X10_readsRest_84 ?_
    try simp (disch := omega) only [mg_in, mg_wr, wr_a, wr_e, wr_k, wr_ww, hT, forall_eq, true_and, inI, Int.add_zero]
    (repeat' (refine And.intro ?_ ?_)) <;> intros <;> (repeat' (refine And.intro ?_ ?_)) <;> intros <;> (repeat' (refine And.intro ?_ ?_)) <;> intros <;> (repeat' (refine And.intro ?_ ?_)) <;> intros <;> (repeat' (refine And.intro ?_ ?_)) <;> intros <;> (repeat' (refine And.intro ?_ ?_)) <;> intros <;> (repeat' (refine And.intro ?_ ?_)) <;> intros <;> (repeat' (refine And.intro ?_ ?_)) <;> intros
    all_goals first | omega | exact hR | (have hB := hX.1; omega)
set_option maxHeartbeats 4000000 in
theorem L_rr66 {s0 : Int} (hn : s0 = 0 ∨ (0 ≤ σ 115 2 ∧ σ 115 2 ≤ 11)) (hT : ST σ) (hX : Tx σ) (hs : s0 = 0 ∨ s0 = 1) (hk : Q (some (vI (if s0 = 0 then (0, σ) else M_c [(3, 1, fun σ => 12 - σ 115 2), (4, 0, fun _ => 7)] σ).1)) (mg g (if s0 = 0 then (0, σ) else M_c [(3, 1, fun σ => 12 - σ 115 2), (4, 0, fun _ => 7)] σ).2)) : AW G mm_X10_readsRest b 66 [(0, vR 89)] [vI s0] (mg g σ) Q := by
  by_cases z : s0 = 0
  · rw [if_pos z] at hk
    refine sg_X10_readsRest_66 ?_
    try simp (disch := omega) only [mg_in, mg_wr, wr_a, wr_e, wr_k, wr_ww, hT, forall_eq, true_and, inI, Int.add_zero]
    (repeat' (refine And.intro ?_ ?_)) <;> intros <;> (repeat' (refine And.intro ?_ ?_)) <;> intros <;> (repeat' (refine And.intro ?_ ?_)) <;> intros <;> (repeat' (refine And.intro ?_ ?_)) <;> intros <;> (repeat' (refine And.intro ?_ ?_)) <;> intros <;> (repeat' (refine And.intro ?_ ?_)) <;> intros <;> (repeat' (refine And.intro ?_ ?_)) <;> intros <;> (repeat' (refine And.intro ?_ ?_)) <;> intros
    all_goals first | omega | exact hk | (rw [z]; exact hk)
  · rw [if_neg z] at hk
    have hR : Runs G mm_X10_reads [vR 89, vI 3, vI 1, vI (12 - σ 115 2)] (mg g σ) (fun r h' => AW G mm_X10_readsRest b 84 [(0, vR 89)] (r.toList ++ []) h' Q) := by
      refine R_reads hT hX (by decide) (by decide) ?_
      obtain ⟨a1, a2⟩ := rd_st (k := 3) (lo := 1) (hi := (12 - σ 115 2)) hT hX (by decide)
      exact L_rr84 a1 a2 rd_or hk
    refine sg_X10_readsRest_66 ?_
    try simp (disch := omega) only [mg_in, mg_wr, wr_a, wr_e, wr_k, wr_ww, hT, forall_eq, true_and, inI, Int.add_zero]
    (repeat' (refine And.intro ?_ ?_)) <;> intros <;> (repeat' (refine And.intro ?_ ?_)) <;> intros <;> (repeat' (refine And.intro ?_ ?_)) <;> intros <;> (repeat' (refine And.intro ?_ ?_)) <;> intros <;> (repeat' (refine And.intro ?_ ?_)) <;> intros <;> (repeat' (refine And.intro ?_ ?_)) <;> intros <;> (repeat' (refine And.intro ?_ ?_)) <;> intros <;> (repeat' (refine And.intro ?_ ?_)) <;> intros
    all_goals first | omega | exact hR | (have hB := hX.1; omega)
set_option maxHeartbeats 4000000 in
theorem L_rr55 {s0 : Int} (hT : ST σ) (hX : Tx σ) (hs : s0 = 0 ∨ s0 = 1) (hk : Q (some (vI (if s0 = 0 then (0, σ) else M_c [(2, 0, fun _ => 11), (3, 1, fun σ => 12 - σ 115 2), (4, 0, fun _ => 7)] σ).1)) (mg g (if s0 = 0 then (0, σ) else M_c [(2, 0, fun _ => 11), (3, 1, fun σ => 12 - σ 115 2), (4, 0, fun _ => 7)] σ).2)) : AW G mm_X10_readsRest b 55 [(0, vR 89)] [vI s0] (mg g σ) Q := by
  by_cases z : s0 = 0
  · rw [if_pos z] at hk
    refine sg_X10_readsRest_55 ?_
    try simp (disch := omega) only [mg_in, mg_wr, wr_a, wr_e, wr_k, wr_ww, hT, forall_eq, true_and, inI, Int.add_zero]
    (repeat' (refine And.intro ?_ ?_)) <;> intros <;> (repeat' (refine And.intro ?_ ?_)) <;> intros <;> (repeat' (refine And.intro ?_ ?_)) <;> intros <;> (repeat' (refine And.intro ?_ ?_)) <;> intros <;> (repeat' (refine And.intro ?_ ?_)) <;> intros <;> (repeat' (refine And.intro ?_ ?_)) <;> intros <;> (repeat' (refine And.intro ?_ ?_)) <;> intros <;> (repeat' (refine And.intro ?_ ?_)) <;> intros
    all_goals first | omega | exact hk | (rw [z]; exact hk)
  · rw [if_neg z] at hk
    have hR : Runs G mm_X10_reads [vR 89, vI 2, vI 0, vI 11] (mg g σ) (fun r h' => AW G mm_X10_readsRest b 66 [(0, vR 89)] (r.toList ++ []) h' Q) := by
      refine R_reads hT hX (by decide) (by decide) ?_
      obtain ⟨a1, a2⟩ := rd_st (k := 2) (lo := 0) (hi := 11) hT hX (by decide)
      exact L_rr66 rd_nm a1 a2 rd_or hk
    refine sg_X10_readsRest_55 ?_
    try simp (disch := omega) only [mg_in, mg_wr, wr_a, wr_e, wr_k, wr_ww, hT, forall_eq, true_and, inI, Int.add_zero]
    (repeat' (refine And.intro ?_ ?_)) <;> intros <;> (repeat' (refine And.intro ?_ ?_)) <;> intros <;> (repeat' (refine And.intro ?_ ?_)) <;> intros <;> (repeat' (refine And.intro ?_ ?_)) <;> intros <;> (repeat' (refine And.intro ?_ ?_)) <;> intros <;> (repeat' (refine And.intro ?_ ?_)) <;> intros <;> (repeat' (refine And.intro ?_ ?_)) <;> intros <;> (repeat' (refine And.intro ?_ ?_)) <;> intros
    all_goals first | omega | exact hR | (have hB := hX.1; omega)
set_option maxHeartbeats 4000000 in
theorem L_rr45 {s0 : Int} (hT : ST σ) (hX : Tx σ) (hs : s0 = 0 ∨ s0 = 1) (hk : Q (some (vI (if s0 = 0 then (0, σ) else M_c [(1, 0, fun _ => 3), (2, 0, fun _ => 11), (3, 1, fun σ => 12 - σ 115 2), (4, 0, fun _ => 7)] σ).1)) (mg g (if s0 = 0 then (0, σ) else M_c [(1, 0, fun _ => 3), (2, 0, fun _ => 11), (3, 1, fun σ => 12 - σ 115 2), (4, 0, fun _ => 7)] σ).2)) : AW G mm_X10_readsRest b 45 [(0, vR 89)] [vI s0] (mg g σ) Q := by
  by_cases z : s0 = 0
  · rw [if_pos z] at hk
    refine sg_X10_readsRest_45 ?_
    try simp (disch := omega) only [mg_in, mg_wr, wr_a, wr_e, wr_k, wr_ww, hT, forall_eq, true_and, inI, Int.add_zero]
    (repeat' (refine And.intro ?_ ?_)) <;> intros <;> (repeat' (refine And.intro ?_ ?_)) <;> intros <;> (repeat' (refine And.intro ?_ ?_)) <;> intros <;> (repeat' (refine And.intro ?_ ?_)) <;> intros <;> (repeat' (refine And.intro ?_ ?_)) <;> intros <;> (repeat' (refine And.intro ?_ ?_)) <;> intros <;> (repeat' (refine And.intro ?_ ?_)) <;> intros <;> (repeat' (refine And.intro ?_ ?_)) <;> intros
    all_goals first | omega | exact hk | (rw [z]; exact hk)
  · rw [if_neg z] at hk
    have hR : Runs G mm_X10_reads [vR 89, vI 1, vI 0, vI 3] (mg g σ) (fun r h' => AW G mm_X10_readsRest b 55 [(0, vR 89)] (r.toList ++ []) h' Q) := by
      refine R_reads hT hX (by decide) (by decide) ?_
      obtain ⟨a1, a2⟩ := rd_st (k := 1) (lo := 0) (hi := 3) hT hX (by decide)
      exact L_rr55 a1 a2 rd_or hk
    refine sg_X10_readsRest_45 ?_
    try simp (disch := omega) only [mg_in, mg_wr, wr_a, wr_e, wr_k, wr_ww, hT, forall_eq, true_and, inI, Int.add_zero]
    (repeat' (refine And.intro ?_ ?_)) <;> intros <;> (repeat' (refine And.intro ?_ ?_)) <;> intros <;> (repeat' (refine And.intro ?_ ?_)) <;> intros <;> (repeat' (refine And.intro ?_ ?_)) <;> intros <;> (repeat' (refine And.intro ?_ ?_)) <;> intros <;> (repeat' (refine And.intro ?_ ?_)) <;> intros <;> (repeat' (refine And.intro ?_ ?_)) <;> intros <;> (repeat' (refine And.intro ?_ ?_)) <;> intros
    all_goals first | omega | exact hR | (have hB := hX.1; omega)
set_option maxHeartbeats 4000000 in
theorem L_rr134 {s0 : Int} (hT : ST σ) (hX : Tx σ) (hs : s0 = 0 ∨ s0 = 1) (hk : Q (some (vI (if s0 = 0 then (0, σ) else M_c [] σ).1)) (mg g (if s0 = 0 then (0, σ) else M_c [] σ).2)) : AW G mm_X10_readsRest b 134 [] [vI s0] (mg g σ) Q := by
  by_cases z : s0 = 0
  · rw [if_pos z] at hk
    refine sg_X10_readsRest_134 ?_
    try simp (disch := omega) only [mg_in, mg_wr, wr_a, wr_e, wr_k, wr_ww, hT, forall_eq, true_and, inI, Int.add_zero]
    (repeat' (refine And.intro ?_ ?_)) <;> intros <;> (repeat' (refine And.intro ?_ ?_)) <;> intros <;> (repeat' (refine And.intro ?_ ?_)) <;> intros <;> (repeat' (refine And.intro ?_ ?_)) <;> intros <;> (repeat' (refine And.intro ?_ ?_)) <;> intros <;> (repeat' (refine And.intro ?_ ?_)) <;> intros <;> (repeat' (refine And.intro ?_ ?_)) <;> intros <;> (repeat' (refine And.intro ?_ ?_)) <;> intros
    all_goals first | omega | exact hk | (rw [z]; exact hk)
  · rw [if_neg z] at hk
    have hk : Q (some (vI 1)) (mg g σ) := hk
    refine sg_X10_readsRest_134 ?_
    try simp (disch := omega) only [mg_in, mg_wr, wr_a, wr_e, wr_k, wr_ww, hT, forall_eq, true_and, inI, Int.add_zero]
    (repeat' (refine And.intro ?_ ?_)) <;> intros <;> (repeat' (refine And.intro ?_ ?_)) <;> intros <;> (repeat' (refine And.intro ?_ ?_)) <;> intros <;> (repeat' (refine And.intro ?_ ?_)) <;> intros <;> (repeat' (refine And.intro ?_ ?_)) <;> intros <;> (repeat' (refine And.intro ?_ ?_)) <;> intros <;> (repeat' (refine And.intro ?_ ?_)) <;> intros <;> (repeat' (refine And.intro ?_ ?_)) <;> intros
    all_goals first | omega | exact hk | (rw [show s0 = 1 by omega]; exact hk)
set_option maxHeartbeats 4000000 in
theorem L_rr122 {s0 : Int} (hT : ST σ) (hX : Tx σ) (hs : s0 = 0 ∨ s0 = 1) (hk : Q (some (vI (if s0 = 0 then (0, σ) else M_c [(2, 0, fun _ => 9999)] σ).1)) (mg g (if s0 = 0 then (0, σ) else M_c [(2, 0, fun _ => 9999)] σ).2)) : AW G mm_X10_readsRest b 122 [(0, vR 89)] [vI s0] (mg g σ) Q := by
  by_cases z : s0 = 0
  · rw [if_pos z] at hk
    refine sg_X10_readsRest_122 ?_
    try simp (disch := omega) only [mg_in, mg_wr, wr_a, wr_e, wr_k, wr_ww, hT, forall_eq, true_and, inI, Int.add_zero]
    (repeat' (refine And.intro ?_ ?_)) <;> intros <;> (repeat' (refine And.intro ?_ ?_)) <;> intros <;> (repeat' (refine And.intro ?_ ?_)) <;> intros <;> (repeat' (refine And.intro ?_ ?_)) <;> intros <;> (repeat' (refine And.intro ?_ ?_)) <;> intros <;> (repeat' (refine And.intro ?_ ?_)) <;> intros <;> (repeat' (refine And.intro ?_ ?_)) <;> intros <;> (repeat' (refine And.intro ?_ ?_)) <;> intros
    all_goals first | omega | exact hk | (rw [z]; exact hk)
  · rw [if_neg z] at hk
    have hR : Runs G mm_X10_reads [vR 89, vI 2, vI 0, vI 9999] (mg g σ) (fun r h' => AW G mm_X10_readsRest b 134 [] (r.toList ++ []) h' Q) := by
      refine R_reads hT hX (by decide) (by decide) ?_
      obtain ⟨a1, a2⟩ := rd_st (k := 2) (lo := 0) (hi := 9999) hT hX (by decide)
      exact L_rr134 a1 a2 rd_or hk
    refine sg_X10_readsRest_122 ?_
    try simp (disch := omega) only [mg_in, mg_wr, wr_a, wr_e, wr_k, wr_ww, hT, forall_eq, true_and, inI, Int.add_zero]
    (repeat' (refine And.intro ?_ ?_)) <;> intros <;> (repeat' (refine And.intro ?_ ?_)) <;> intros <;> (repeat' (refine And.intro ?_ ?_)) <;> intros <;> (repeat' (refine And.intro ?_ ?_)) <;> intros <;> (repeat' (refine And.intro ?_ ?_)) <;> intros <;> (repeat' (refine And.intro ?_ ?_)) <;> intros <;> (repeat' (refine And.intro ?_ ?_)) <;> intros <;> (repeat' (refine And.intro ?_ ?_)) <;> intros
    all_goals first | omega | exact hR | (have hB := hX.1; omega)
set_option maxHeartbeats 4000000 in
theorem L_rr111 {s0 : Int} (hT : ST σ) (hX : Tx σ) (hs : s0 = 0 ∨ s0 = 1) (hk : Q (some (vI (if s0 = 0 then (0, σ) else M_c [(1, 0, fun _ => 11), (2, 0, fun _ => 9999)] σ).1)) (mg g (if s0 = 0 then (0, σ) else M_c [(1, 0, fun _ => 11), (2, 0, fun _ => 9999)] σ).2)) : AW G mm_X10_readsRest b 111 [(0, vR 89)] [vI s0] (mg g σ) Q := by
  by_cases z : s0 = 0
  · rw [if_pos z] at hk
    refine sg_X10_readsRest_111 ?_
    try simp (disch := omega) only [mg_in, mg_wr, wr_a, wr_e, wr_k, wr_ww, hT, forall_eq, true_and, inI, Int.add_zero]
    (repeat' (refine And.intro ?_ ?_)) <;> intros <;> (repeat' (refine And.intro ?_ ?_)) <;> intros <;> (repeat' (refine And.intro ?_ ?_)) <;> intros <;> (repeat' (refine And.intro ?_ ?_)) <;> intros <;> (repeat' (refine And.intro ?_ ?_)) <;> intros <;> (repeat' (refine And.intro ?_ ?_)) <;> intros <;> (repeat' (refine And.intro ?_ ?_)) <;> intros <;> (repeat' (refine And.intro ?_ ?_)) <;> intros
    all_goals first | omega | exact hk | (rw [z]; exact hk)
  · rw [if_neg z] at hk
    have hR : Runs G mm_X10_reads [vR 89, vI 1, vI 0, vI 11] (mg g σ) (fun r h' => AW G mm_X10_readsRest b 122 [(0, vR 89)] (r.toList ++ []) h' Q) := by
      refine R_reads hT hX (by decide) (by decide) ?_
      obtain ⟨a1, a2⟩ := rd_st (k := 1) (lo := 0) (hi := 11) hT hX (by decide)
      exact L_rr122 a1 a2 rd_or hk
    refine sg_X10_readsRest_111 ?_
    try simp (disch := omega) only [mg_in, mg_wr, wr_a, wr_e, wr_k, wr_ww, hT, forall_eq, true_and, inI, Int.add_zero]
    (repeat' (refine And.intro ?_ ?_)) <;> intros <;> (repeat' (refine And.intro ?_ ?_)) <;> intros <;> (repeat' (refine And.intro ?_ ?_)) <;> intros <;> (repeat' (refine And.intro ?_ ?_)) <;> intros <;> (repeat' (refine And.intro ?_ ?_)) <;> intros <;> (repeat' (refine And.intro ?_ ?_)) <;> intros <;> (repeat' (refine And.intro ?_ ?_)) <;> intros <;> (repeat' (refine And.intro ?_ ?_)) <;> intros
    all_goals first | omega | exact hR | (have hB := hX.1; omega)
set_option maxHeartbeats 4000000 in
theorem L_rr161 {s0 : Int} (hT : ST σ) (hX : Tx σ) (hs : s0 = 0 ∨ s0 = 1) (hk : Q (some (vI (if s0 = 0 then (0, σ) else M_c [] σ).1)) (mg g (if s0 = 0 then (0, σ) else M_c [] σ).2)) : AW G mm_X10_readsRest b 161 [] [vI s0] (mg g σ) Q := by
  by_cases z : s0 = 0
  · rw [if_pos z] at hk
    refine sg_X10_readsRest_161 ?_
    try simp (disch := omega) only [mg_in, mg_wr, wr_a, wr_e, wr_k, wr_ww, hT, forall_eq, true_and, inI, Int.add_zero]
    (repeat' (refine And.intro ?_ ?_)) <;> intros <;> (repeat' (refine And.intro ?_ ?_)) <;> intros <;> (repeat' (refine And.intro ?_ ?_)) <;> intros <;> (repeat' (refine And.intro ?_ ?_)) <;> intros <;> (repeat' (refine And.intro ?_ ?_)) <;> intros <;> (repeat' (refine And.intro ?_ ?_)) <;> intros <;> (repeat' (refine And.intro ?_ ?_)) <;> intros <;> (repeat' (refine And.intro ?_ ?_)) <;> intros
    all_goals first | omega | exact hk | (rw [z]; exact hk)
  · rw [if_neg z] at hk
    have hk : Q (some (vI 1)) (mg g σ) := hk
    refine sg_X10_readsRest_161 ?_
    try simp (disch := omega) only [mg_in, mg_wr, wr_a, wr_e, wr_k, wr_ww, hT, forall_eq, true_and, inI, Int.add_zero]
    (repeat' (refine And.intro ?_ ?_)) <;> intros <;> (repeat' (refine And.intro ?_ ?_)) <;> intros <;> (repeat' (refine And.intro ?_ ?_)) <;> intros <;> (repeat' (refine And.intro ?_ ?_)) <;> intros <;> (repeat' (refine And.intro ?_ ?_)) <;> intros <;> (repeat' (refine And.intro ?_ ?_)) <;> intros <;> (repeat' (refine And.intro ?_ ?_)) <;> intros <;> (repeat' (refine And.intro ?_ ?_)) <;> intros
    all_goals first | omega | exact hk | (rw [show s0 = 1 by omega]; exact hk)
set_option maxHeartbeats 4000000 in
theorem L_rr150 {s0 : Int} (hT : ST σ) (hX : Tx σ) (hs : s0 = 0 ∨ s0 = 1) (hk : Q (some (vI (if s0 = 0 then (0, σ) else M_c [(1, 1, fun _ => 9)] σ).1)) (mg g (if s0 = 0 then (0, σ) else M_c [(1, 1, fun _ => 9)] σ).2)) : AW G mm_X10_readsRest b 150 [(0, vR 89)] [vI s0] (mg g σ) Q := by
  by_cases z : s0 = 0
  · rw [if_pos z] at hk
    refine sg_X10_readsRest_150 ?_
    try simp (disch := omega) only [mg_in, mg_wr, wr_a, wr_e, wr_k, wr_ww, hT, forall_eq, true_and, inI, Int.add_zero]
    (repeat' (refine And.intro ?_ ?_)) <;> intros <;> (repeat' (refine And.intro ?_ ?_)) <;> intros <;> (repeat' (refine And.intro ?_ ?_)) <;> intros <;> (repeat' (refine And.intro ?_ ?_)) <;> intros <;> (repeat' (refine And.intro ?_ ?_)) <;> intros <;> (repeat' (refine And.intro ?_ ?_)) <;> intros <;> (repeat' (refine And.intro ?_ ?_)) <;> intros <;> (repeat' (refine And.intro ?_ ?_)) <;> intros
    all_goals first | omega | exact hk | (rw [z]; exact hk)
  · rw [if_neg z] at hk
    have hR : Runs G mm_X10_reads [vR 89, vI 1, vI 1, vI 9] (mg g σ) (fun r h' => AW G mm_X10_readsRest b 161 [] (r.toList ++ []) h' Q) := by
      refine R_reads hT hX (by decide) (by decide) ?_
      obtain ⟨a1, a2⟩ := rd_st (k := 1) (lo := 1) (hi := 9) hT hX (by decide)
      exact L_rr161 a1 a2 rd_or hk
    refine sg_X10_readsRest_150 ?_
    try simp (disch := omega) only [mg_in, mg_wr, wr_a, wr_e, wr_k, wr_ww, hT, forall_eq, true_and, inI, Int.add_zero]
    (repeat' (refine And.intro ?_ ?_)) <;> intros <;> (repeat' (refine And.intro ?_ ?_)) <;> intros <;> (repeat' (refine And.intro ?_ ?_)) <;> intros <;> (repeat' (refine And.intro ?_ ?_)) <;> intros <;> (repeat' (refine And.intro ?_ ?_)) <;> intros <;> (repeat' (refine And.intro ?_ ?_)) <;> intros <;> (repeat' (refine And.intro ?_ ?_)) <;> intros <;> (repeat' (refine And.intro ?_ ?_)) <;> intros
    all_goals first | omega | exact hR | (have hB := hX.1; omega)
set_option maxHeartbeats 4000000 in
theorem L_rr198 {s0 : Int} (hT : ST σ) (hX : Tx σ) (hs : s0 = 0 ∨ s0 = 1) (hk : Q (some (vI (if s0 = 0 then (0, σ) else M_c [] σ).1)) (mg g (if s0 = 0 then (0, σ) else M_c [] σ).2)) : AW G mm_X10_readsRest b 198 [] [vI s0] (mg g σ) Q := by
  by_cases z : s0 = 0
  · rw [if_pos z] at hk
    refine sg_X10_readsRest_198 ?_
    try simp (disch := omega) only [mg_in, mg_wr, wr_a, wr_e, wr_k, wr_ww, hT, forall_eq, true_and, inI, Int.add_zero]
    (repeat' (refine And.intro ?_ ?_)) <;> intros <;> (repeat' (refine And.intro ?_ ?_)) <;> intros <;> (repeat' (refine And.intro ?_ ?_)) <;> intros <;> (repeat' (refine And.intro ?_ ?_)) <;> intros <;> (repeat' (refine And.intro ?_ ?_)) <;> intros <;> (repeat' (refine And.intro ?_ ?_)) <;> intros <;> (repeat' (refine And.intro ?_ ?_)) <;> intros <;> (repeat' (refine And.intro ?_ ?_)) <;> intros
    all_goals first | omega | exact hk | (rw [z]; exact hk)
  · rw [if_neg z] at hk
    have hk : Q (some (vI 1)) (mg g σ) := hk
    refine sg_X10_readsRest_198 ?_
    try simp (disch := omega) only [mg_in, mg_wr, wr_a, wr_e, wr_k, wr_ww, hT, forall_eq, true_and, inI, Int.add_zero]
    (repeat' (refine And.intro ?_ ?_)) <;> intros <;> (repeat' (refine And.intro ?_ ?_)) <;> intros <;> (repeat' (refine And.intro ?_ ?_)) <;> intros <;> (repeat' (refine And.intro ?_ ?_)) <;> intros <;> (repeat' (refine And.intro ?_ ?_)) <;> intros <;> (repeat' (refine And.intro ?_ ?_)) <;> intros <;> (repeat' (refine And.intro ?_ ?_)) <;> intros <;> (repeat' (refine And.intro ?_ ?_)) <;> intros
    all_goals first | omega | exact hk | (rw [show s0 = 1 by omega]; exact hk)
set_option maxHeartbeats 4000000 in
theorem L_rr187 {s0 : Int} (hT : ST σ) (hX : Tx σ) (hs : s0 = 0 ∨ s0 = 1) (hk : Q (some (vI (if s0 = 0 then (0, σ) else M_c [(2, 0, fun _ => 11)] σ).1)) (mg g (if s0 = 0 then (0, σ) else M_c [(2, 0, fun _ => 11)] σ).2)) : AW G mm_X10_readsRest b 187 [(0, vR 89)] [vI s0] (mg g σ) Q := by
  by_cases z : s0 = 0
  · rw [if_pos z] at hk
    refine sg_X10_readsRest_187 ?_
    try simp (disch := omega) only [mg_in, mg_wr, wr_a, wr_e, wr_k, wr_ww, hT, forall_eq, true_and, inI, Int.add_zero]
    (repeat' (refine And.intro ?_ ?_)) <;> intros <;> (repeat' (refine And.intro ?_ ?_)) <;> intros <;> (repeat' (refine And.intro ?_ ?_)) <;> intros <;> (repeat' (refine And.intro ?_ ?_)) <;> intros <;> (repeat' (refine And.intro ?_ ?_)) <;> intros <;> (repeat' (refine And.intro ?_ ?_)) <;> intros <;> (repeat' (refine And.intro ?_ ?_)) <;> intros <;> (repeat' (refine And.intro ?_ ?_)) <;> intros
    all_goals first | omega | exact hk | (rw [z]; exact hk)
  · rw [if_neg z] at hk
    have hR : Runs G mm_X10_reads [vR 89, vI 2, vI 0, vI 11] (mg g σ) (fun r h' => AW G mm_X10_readsRest b 198 [] (r.toList ++ []) h' Q) := by
      refine R_reads hT hX (by decide) (by decide) ?_
      obtain ⟨a1, a2⟩ := rd_st (k := 2) (lo := 0) (hi := 11) hT hX (by decide)
      exact L_rr198 a1 a2 rd_or hk
    refine sg_X10_readsRest_187 ?_
    try simp (disch := omega) only [mg_in, mg_wr, wr_a, wr_e, wr_k, wr_ww, hT, forall_eq, true_and, inI, Int.add_zero]
    (repeat' (refine And.intro ?_ ?_)) <;> intros <;> (repeat' (refine And.intro ?_ ?_)) <;> intros <;> (repeat' (refine And.intro ?_ ?_)) <;> intros <;> (repeat' (refine And.intro ?_ ?_)) <;> intros <;> (repeat' (refine And.intro ?_ ?_)) <;> intros <;> (repeat' (refine And.intro ?_ ?_)) <;> intros <;> (repeat' (refine And.intro ?_ ?_)) <;> intros <;> (repeat' (refine And.intro ?_ ?_)) <;> intros
    all_goals first | omega | exact hR | (have hB := hX.1; omega)
set_option maxHeartbeats 4000000 in
theorem L_rr177 {s0 : Int} (hT : ST σ) (hX : Tx σ) (hs : s0 = 0 ∨ s0 = 1) (hk : Q (some (vI (if s0 = 0 then (0, σ) else M_c [(1, 0, fun _ => 3), (2, 0, fun _ => 11)] σ).1)) (mg g (if s0 = 0 then (0, σ) else M_c [(1, 0, fun _ => 3), (2, 0, fun _ => 11)] σ).2)) : AW G mm_X10_readsRest b 177 [(0, vR 89)] [vI s0] (mg g σ) Q := by
  by_cases z : s0 = 0
  · rw [if_pos z] at hk
    refine sg_X10_readsRest_177 ?_
    try simp (disch := omega) only [mg_in, mg_wr, wr_a, wr_e, wr_k, wr_ww, hT, forall_eq, true_and, inI, Int.add_zero]
    (repeat' (refine And.intro ?_ ?_)) <;> intros <;> (repeat' (refine And.intro ?_ ?_)) <;> intros <;> (repeat' (refine And.intro ?_ ?_)) <;> intros <;> (repeat' (refine And.intro ?_ ?_)) <;> intros <;> (repeat' (refine And.intro ?_ ?_)) <;> intros <;> (repeat' (refine And.intro ?_ ?_)) <;> intros <;> (repeat' (refine And.intro ?_ ?_)) <;> intros <;> (repeat' (refine And.intro ?_ ?_)) <;> intros
    all_goals first | omega | exact hk | (rw [z]; exact hk)
  · rw [if_neg z] at hk
    have hR : Runs G mm_X10_reads [vR 89, vI 1, vI 0, vI 3] (mg g σ) (fun r h' => AW G mm_X10_readsRest b 187 [(0, vR 89)] (r.toList ++ []) h' Q) := by
      refine R_reads hT hX (by decide) (by decide) ?_
      obtain ⟨a1, a2⟩ := rd_st (k := 1) (lo := 0) (hi := 3) hT hX (by decide)
      exact L_rr187 a1 a2 rd_or hk
    refine sg_X10_readsRest_177 ?_
    try simp (disch := omega) only [mg_in, mg_wr, wr_a, wr_e, wr_k, wr_ww, hT, forall_eq, true_and, inI, Int.add_zero]
    (repeat' (refine And.intro ?_ ?_)) <;> intros <;> (repeat' (refine And.intro ?_ ?_)) <;> intros <;> (repeat' (refine And.intro ?_ ?_)) <;> intros <;> (repeat' (refine And.intro ?_ ?_)) <;> intros <;> (repeat' (refine And.intro ?_ ?_)) <;> intros <;> (repeat' (refine And.intro ?_ ?_)) <;> intros <;> (repeat' (refine And.intro ?_ ?_)) <;> intros <;> (repeat' (refine And.intro ?_ ?_)) <;> intros
    all_goals first | omega | exact hR | (have hB := hX.1; omega)
set_option maxHeartbeats 4000000 in
theorem L_rr214 {s0 : Int} (hT : ST σ) (hX : Tx σ) (hs : s0 = 0 ∨ s0 = 1) (hk : Q (some (vI (if s0 = 0 then (0, σ) else M_c [] σ).1)) (mg g (if s0 = 0 then (0, σ) else M_c [] σ).2)) : AW G mm_X10_readsRest b 214 [] [vI s0] (mg g σ) Q := by
  by_cases z : s0 = 0
  · rw [if_pos z] at hk
    refine sg_X10_readsRest_214 ?_
    try simp (disch := omega) only [mg_in, mg_wr, wr_a, wr_e, wr_k, wr_ww, hT, forall_eq, true_and, inI, Int.add_zero]
    (repeat' (refine And.intro ?_ ?_)) <;> intros <;> (repeat' (refine And.intro ?_ ?_)) <;> intros <;> (repeat' (refine And.intro ?_ ?_)) <;> intros <;> (repeat' (refine And.intro ?_ ?_)) <;> intros <;> (repeat' (refine And.intro ?_ ?_)) <;> intros <;> (repeat' (refine And.intro ?_ ?_)) <;> intros <;> (repeat' (refine And.intro ?_ ?_)) <;> intros <;> (repeat' (refine And.intro ?_ ?_)) <;> intros
    all_goals first | omega | exact hk | (rw [z]; exact hk)
  · rw [if_neg z] at hk
    have hk : Q (some (vI 1)) (mg g σ) := hk
    refine sg_X10_readsRest_214 ?_
    try simp (disch := omega) only [mg_in, mg_wr, wr_a, wr_e, wr_k, wr_ww, hT, forall_eq, true_and, inI, Int.add_zero]
    (repeat' (refine And.intro ?_ ?_)) <;> intros <;> (repeat' (refine And.intro ?_ ?_)) <;> intros <;> (repeat' (refine And.intro ?_ ?_)) <;> intros <;> (repeat' (refine And.intro ?_ ?_)) <;> intros <;> (repeat' (refine And.intro ?_ ?_)) <;> intros <;> (repeat' (refine And.intro ?_ ?_)) <;> intros <;> (repeat' (refine And.intro ?_ ?_)) <;> intros <;> (repeat' (refine And.intro ?_ ?_)) <;> intros
    all_goals first | omega | exact hk | (rw [show s0 = 1 by omega]; exact hk)
set_option maxHeartbeats 4000000 in
theorem R_rest {w : Int} (hT : ST σ) (hX : Tx σ) (hk : Q (some (vI (M_rr w σ).1)) (mg g (M_rr w σ).2)) : Runs G mm_X10_readsRest [vR 89, vI w] (mg g σ) Q := by
  unfold M_rr spc at hk
  refine rn_X10_readsRest ?_
  have r1 : (w = 1) → Runs G mm_X10_reads [vR 89, vI 0, vI 0, vI 1] (mg g σ) (fun r h' => AW G mm_X10_readsRest (0, 0) 45 [(0, vR 89)] (r.toList ++ []) h' Q) := fun hw => by
    refine R_reads hT hX (by decide) (by decide) ?_
    obtain ⟨a1, a2⟩ := rd_st (k := 0) (lo := 0) (hi := 1) hT hX (by decide)
    (repeat (first | rw [if_pos (by omega)] at hk | rw [if_neg (by omega)] at hk))
    exact L_rr45 a1 a2 rd_or hk
  have r2 : (w = 2) → Runs G mm_X10_reads [vR 89, vI 0, vI 0, vI 1] (mg g σ) (fun r h' => AW G mm_X10_readsRest (0, 0) 111 [(0, vR 89)] (r.toList ++ []) h' Q) := fun hw => by
    refine R_reads hT hX (by decide) (by decide) ?_
    obtain ⟨a1, a2⟩ := rd_st (k := 0) (lo := 0) (hi := 1) hT hX (by decide)
    (repeat (first | rw [if_pos (by omega)] at hk | rw [if_neg (by omega)] at hk))
    exact L_rr111 a1 a2 rd_or hk
  have r3 : (w = 3) → Runs G mm_X10_reads [vR 89, vI 0, vI 0, vI 1] (mg g σ) (fun r h' => AW G mm_X10_readsRest (0, 0) 150 [(0, vR 89)] (r.toList ++ []) h' Q) := fun hw => by
    refine R_reads hT hX (by decide) (by decide) ?_
    obtain ⟨a1, a2⟩ := rd_st (k := 0) (lo := 0) (hi := 1) hT hX (by decide)
    (repeat (first | rw [if_pos (by omega)] at hk | rw [if_neg (by omega)] at hk))
    exact L_rr150 a1 a2 rd_or hk
  have r4 : (w = 4) → Runs G mm_X10_reads [vR 89, vI 0, vI 0, vI 3] (mg g σ) (fun r h' => AW G mm_X10_readsRest (0, 0) 177 [(0, vR 89)] (r.toList ++ []) h' Q) := fun hw => by
    refine R_reads hT hX (by decide) (by decide) ?_
    obtain ⟨a1, a2⟩ := rd_st (k := 0) (lo := 0) (hi := 3) hT hX (by decide)
    (repeat (first | rw [if_pos (by omega)] at hk | rw [if_neg (by omega)] at hk))
    exact L_rr177 a1 a2 rd_or hk
  have r5 : (w < 0 ∨ 4 < w) → Runs G mm_X10_reads [vR 89, vI 0, vI 0, vI 1] (mg g σ) (fun r h' => AW G mm_X10_readsRest (0, 0) 214 [] (r.toList ++ []) h' Q) := fun hw => by
    refine R_reads hT hX (by decide) (by decide) ?_
    obtain ⟨a1, a2⟩ := rd_st (k := 0) (lo := 0) (hi := 1) hT hX (by decide)
    (repeat (first | rw [if_pos (by omega)] at hk | rw [if_neg (by omega)] at hk))
    exact L_rr214 a1 a2 rd_or hk
  simp (disch := omega) only [mg_in, mg_wr, wr_a, wr_e, wr_k, wr_ww, hT, forall_eq, true_and, inI, Int.add_zero]
  (repeat' (refine And.intro ?_ ?_)) <;> intros <;> (repeat' (refine And.intro ?_ ?_)) <;> intros <;> (repeat' (refine And.intro ?_ ?_)) <;> intros <;> (repeat' (refine And.intro ?_ ?_)) <;> intros <;> (repeat' (refine And.intro ?_ ?_)) <;> intros <;> (repeat' (refine And.intro ?_ ?_)) <;> intros <;> (repeat' (refine And.intro ?_ ?_)) <;> intros <;> (repeat' (refine And.intro ?_ ?_)) <;> intros
  all_goals first
    | omega
    | exact r1 (by assumption)
    | exact r2 (by assumption)
    | exact r3 (by assumption)
    | exact r4 (by assumption)
    | exact r5 (by assumption)
    | (rw [if_pos (by assumption)] at hk; exact hk)
end RF
