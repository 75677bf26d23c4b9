/-! the reference: what is asked for, the plain part -/
section RA
variable {G : GG} {b : Nat × Nat} {Q : Option VV → Hp → Prop} {g σ : Hp}
def M_write (v : Int) (σ : Hp) : Int × Hp := if ¬ (0 ≤ v ∧ v ≤ 255) then (-1002, σ) else if σ 89 31 = 200 then (-1004, σ) else (σ 89 31 + 1, wr (wr σ 114 (σ 89 31) v) 89 31 (σ 89 31 + 1))
set_option maxHeartbeats 8000000 in
theorem R_write {v n m : Int} (hI : IV σ n m) (hk : Q (some (vI (M_write v σ).1)) (mg g (M_write v σ).2)) : Runs G mm_X10_write [vR 89, vI v] (mg g σ) Q := by
  have hT := hI.s
  obtain ⟨x1, x2, -⟩ := hI.x
  unfold M_write at hk
  refine rn_X10_write ?_
  simp (disch := omega) only [mg_in, mg_wr, wr_a, hT, forall_eq, true_and, inI, Int.add_zero]
  (repeat' split at hk) <;> (repeat' (refine And.intro ?_ ?_)) <;> intros <;> (repeat' (refine And.intro ?_ ?_)) <;> intros <;> (repeat' (refine And.intro ?_ ?_)) <;> intros <;> (repeat' (refine And.intro ?_ ?_)) <;> intros <;> (repeat' (refine And.intro ?_ ?_)) <;> intros <;> (repeat' (refine And.intro ?_ ?_)) <;> intros <;> (repeat' (refine And.intro ?_ ?_)) <;> intros <;> (repeat' (refine And.intro ?_ ?_)) <;> intros <;> first | omega | exact hk
def M_erase (σ : Hp) : Int × Hp := (σ 89 31, wr σ 89 31 0)
set_option maxHeartbeats 8000000 in
theorem R_erase {n m : Int} (hI : IV σ n m) (hk : Q (some (vI (M_erase  σ).1)) (mg g (M_erase  σ).2)) : Runs G mm_X10_erase [vR 89] (mg g σ) Q := by
  have hT := hI.s
  unfold M_erase at hk
  refine rn_X10_erase ?_
  simp (disch := omega) only [mg_in, mg_wr, wr_a, hT, forall_eq, true_and, inI, Int.add_zero]
  (repeat' split at hk) <;> (repeat' (refine And.intro ?_ ?_)) <;> intros <;> (repeat' (refine And.intro ?_ ?_)) <;> intros <;> (repeat' (refine And.intro ?_ ?_)) <;> intros <;> (repeat' (refine And.intro ?_ ?_)) <;> intros <;> (repeat' (refine And.intro ?_ ?_)) <;> intros <;> (repeat' (refine And.intro ?_ ?_)) <;> intros <;> (repeat' (refine And.intro ?_ ?_)) <;> intros <;> (repeat' (refine And.intro ?_ ?_)) <;> intros <;> first | omega | exact hk
def M_cell (j c : Int) (σ : Hp) : Int × Hp := if ¬ (0 ≤ j ∧ j ≤ 1) then (-1001, σ) else if ¬ (0 ≤ c ∧ c ≤ 11) then (-1001, σ) else (σ 90 (12 * j + c), σ)
set_option maxHeartbeats 8000000 in
theorem R_cell {j c n m : Int} (hI : IV σ n m) (hk : Q (some (vI (M_cell j c σ).1)) (mg g (M_cell j c σ).2)) : Runs G mm_X10_cell [vR 89, vI j, vI c] (mg g σ) Q := by
  have hT := hI.s
  unfold M_cell at hk
  refine rn_X10_cell ?_
  simp (disch := omega) only [mg_in, mg_wr, wr_a, hT, forall_eq, true_and, inI, Int.add_zero]
  (repeat' split at hk) <;> (repeat' (refine And.intro ?_ ?_)) <;> intros <;> (repeat' (refine And.intro ?_ ?_)) <;> intros <;> (repeat' (refine And.intro ?_ ?_)) <;> intros <;> (repeat' (refine And.intro ?_ ?_)) <;> intros <;> (repeat' (refine And.intro ?_ ?_)) <;> intros <;> (repeat' (refine And.intro ?_ ?_)) <;> intros <;> (repeat' (refine And.intro ?_ ?_)) <;> intros <;> (repeat' (refine And.intro ?_ ?_)) <;> intros <;> first | omega | exact hk
def M_put (j c v : Int) (σ : Hp) : Int × Hp := if ¬ (0 ≤ j ∧ j ≤ 1) then (-1001, σ) else if ¬ (0 ≤ c ∧ c ≤ 11) then (-1001, σ) else if ¬ (0 ≤ v ∧ v ≤ 9999) then (-1002, σ) else (σ 90 (12 * j + c), wr σ 90 (12 * j + c) v)
set_option maxHeartbeats 8000000 in
theorem R_put {j c v n m : Int} (hI : IV σ n m) (hk : Q (some (vI (M_put j c v σ).1)) (mg g (M_put j c v σ).2)) : Runs G mm_X10_put [vR 89, vI j, vI c, vI v] (mg g σ) Q := by
  have hT := hI.s
  unfold M_put at hk
  refine rn_X10_put ?_
  simp (disch := omega) only [mg_in, mg_wr, wr_a, hT, forall_eq, true_and, inI, Int.add_zero]
  (repeat' split at hk) <;> (repeat' (refine And.intro ?_ ?_)) <;> intros <;> (repeat' (refine And.intro ?_ ?_)) <;> intros <;> (repeat' (refine And.intro ?_ ?_)) <;> intros <;> (repeat' (refine And.intro ?_ ?_)) <;> intros <;> (repeat' (refine And.intro ?_ ?_)) <;> intros <;> (repeat' (refine And.intro ?_ ?_)) <;> intros <;> (repeat' (refine And.intro ?_ ?_)) <;> intros <;> (repeat' (refine And.intro ?_ ?_)) <;> intros <;> first | omega | exact hk
def M_door (j k w : Int) (σ : Hp) : Int × Hp := if ¬ (0 ≤ j ∧ j ≤ 1) then (-1001, σ) else if ¬ (0 ≤ k ∧ k ≤ 3) then (-1001, σ) else if ¬ (0 ≤ w ∧ w ≤ 2) then (-1002, σ) else if σ 92 (4 * j + k) = 0 then (-1003, σ) else if w = 0 then (σ 91 (4 * j + k), σ) else if w = 1 then (σ 92 (4 * j + k), σ) else (σ 93 (4 * j + k), σ)
set_option maxHeartbeats 8000000 in
theorem R_door {j k w n m : Int} (hI : IV σ n m) (hk : Q (some (vI (M_door j k w σ).1)) (mg g (M_door j k w σ).2)) : Runs G mm_X10_door [vR 89, vI j, vI k, vI w] (mg g σ) Q := by
  have hT := hI.s
  unfold M_door at hk
  refine rn_X10_door ?_
  simp (disch := omega) only [mg_in, mg_wr, wr_a, hT, forall_eq, true_and, inI, Int.add_zero]
  (repeat' split at hk) <;> (repeat' (refine And.intro ?_ ?_)) <;> intros <;> (repeat' (refine And.intro ?_ ?_)) <;> intros <;> (repeat' (refine And.intro ?_ ?_)) <;> intros <;> (repeat' (refine And.intro ?_ ?_)) <;> intros <;> (repeat' (refine And.intro ?_ ?_)) <;> intros <;> (repeat' (refine And.intro ?_ ?_)) <;> intros <;> (repeat' (refine And.intro ?_ ?_)) <;> intros <;> (repeat' (refine And.intro ?_ ?_)) <;> intros <;> first | omega | exact hk
def M_delay (l d : Int) (σ : Hp) : Int × Hp := if ¬ (0 ≤ l ∧ l ≤ 1) then (-1001, σ) else if ¬ (1 ≤ d ∧ d ≤ 9) then (-1002, σ) else (σ 108 l, wr σ 108 l d)
set_option maxHeartbeats 8000000 in
theorem R_delay {l d n m : Int} (hI : IV σ n m) (hk : Q (some (vI (M_delay l d σ).1)) (mg g (M_delay l d σ).2)) : Runs G mm_X10_delay [vR 89, vI l, vI d] (mg g σ) Q := by
  have hT := hI.s
  unfold M_delay at hk
  refine rn_X10_delay ?_
  simp (disch := omega) only [mg_in, mg_wr, wr_a, hT, forall_eq, true_and, inI, Int.add_zero]
  (repeat' split at hk) <;> (repeat' (refine And.intro ?_ ?_)) <;> intros <;> (repeat' (refine And.intro ?_ ?_)) <;> intros <;> (repeat' (refine And.intro ?_ ?_)) <;> intros <;> (repeat' (refine And.intro ?_ ?_)) <;> intros <;> (repeat' (refine And.intro ?_ ?_)) <;> intros <;> (repeat' (refine And.intro ?_ ?_)) <;> intros <;> (repeat' (refine And.intro ?_ ?_)) <;> intros <;> (repeat' (refine And.intro ?_ ?_)) <;> intros <;> first | omega | exact hk
def M_aim (e k o : Int) (σ : Hp) : Int × Hp := if ¬ (0 ≤ e ∧ e ≤ 3) then (-1001, σ) else if ¬ (0 ≤ k ∧ k ≤ 3) then (-1001, σ) else if ¬ (0 ≤ o ∧ o ≤ 11) then (-1002, σ) else if σ 106 e = k ∧ σ 107 e = o then (0, wr (wr σ 106 e k) 107 e o) else (1, wr (wr σ 106 e k) 107 e o)
set_option maxHeartbeats 8000000 in
theorem R_aim {e k o n m : Int} (hI : IV σ n m) (hk : Q (some (vI (M_aim e k o σ).1)) (mg g (M_aim e k o σ).2)) : Runs G mm_X10_aim [vR 89, vI e, vI k, vI o] (mg g σ) Q := by
  have hT := hI.s
  unfold M_aim at hk
  refine rn_X10_aim ?_
  simp (disch := omega) only [mg_in, mg_wr, wr_a, hT, forall_eq, true_and, inI, Int.add_zero]
  (repeat' split at hk) <;> (repeat' (refine And.intro ?_ ?_)) <;> intros <;> (repeat' (refine And.intro ?_ ?_)) <;> intros <;> (repeat' (refine And.intro ?_ ?_)) <;> intros <;> (repeat' (refine And.intro ?_ ?_)) <;> intros <;> (repeat' (refine And.intro ?_ ?_)) <;> intros <;> (repeat' (refine And.intro ?_ ?_)) <;> intros <;> (repeat' (refine And.intro ?_ ?_)) <;> intros <;> (repeat' (refine And.intro ?_ ?_)) <;> intros <;> first | omega | exact hk
def M_receive (e c : Int) (σ : Hp) : Int × Hp := if ¬ (0 ≤ e ∧ e ≤ 3) then (-1001, σ) else if ¬ (0 ≤ c ∧ c ≤ 11) then (-1001, σ) else if ¬ σ 94 e = 1 then (-1003, σ) else if σ 99 e = 3 then (-1004, σ) else (σ 99 e + 1, wr (wr σ 100 (3 * e + σ 99 e) c) 99 e (σ 99 e + 1))
set_option maxHeartbeats 8000000 in
theorem R_receive {e c n m : Int} (hI : IV σ n m) (hk : Q (some (vI (M_receive e c σ).1)) (mg g (M_receive e c σ).2)) : Runs G mm_X10_receive [vR 89, vI e, vI c] (mg g σ) Q := by
  have hT := hI.s
  have hE := hI.e e
  unfold M_receive at hk
  refine rn_X10_receive ?_
  simp (disch := omega) only [mg_in, mg_wr, wr_a, hT, forall_eq, true_and, inI, Int.add_zero]
  (repeat' split at hk) <;> (repeat' (refine And.intro ?_ ?_)) <;> intros <;> (repeat' (refine And.intro ?_ ?_)) <;> intros <;> (repeat' (refine And.intro ?_ ?_)) <;> intros <;> (repeat' (refine And.intro ?_ ?_)) <;> intros <;> (repeat' (refine And.intro ?_ ?_)) <;> intros <;> (repeat' (refine And.intro ?_ ?_)) <;> intros <;> (repeat' (refine And.intro ?_ ?_)) <;> intros <;> (repeat' (refine And.intro ?_ ?_)) <;> intros <;> (try have hE := hE (by omega) (by omega)) <;> first | omega | exact hk
def M_taken (w : Int) (σ : Hp) : Int × Hp := if ¬ (0 ≤ w ∧ w ≤ 5) then (-1002, σ) else if σ 89 27 = 0 then (-1, σ) else (σ 113 w, σ)
set_option maxHeartbeats 8000000 in
theorem R_taken {w n m : Int} (hI : IV σ n m) (hk : Q (some (vI (M_taken w σ).1)) (mg g (M_taken w σ).2)) : Runs G mm_X10_taken [vR 89, vI w] (mg g σ) Q := by
  have hT := hI.s
  unfold M_taken at hk
  refine rn_X10_taken ?_
  simp (disch := omega) only [mg_in, mg_wr, wr_a, hT, forall_eq, true_and, inI, Int.add_zero]
  (repeat' split at hk) <;> (repeat' (refine And.intro ?_ ?_)) <;> intros <;> (repeat' (refine And.intro ?_ ?_)) <;> intros <;> (repeat' (refine And.intro ?_ ?_)) <;> intros <;> (repeat' (refine And.intro ?_ ?_)) <;> intros <;> (repeat' (refine And.intro ?_ ?_)) <;> intros <;> (repeat' (refine And.intro ?_ ?_)) <;> intros <;> (repeat' (refine And.intro ?_ ?_)) <;> intros <;> (repeat' (refine And.intro ?_ ?_)) <;> intros <;> first | omega | exact hk
def M_end (e w : Int) (σ : Hp) : Int × Hp := if ¬ (0 ≤ e ∧ e ≤ 3) then (-1001, σ) else if w = 0 then (σ 94 e, σ) else if w = 1 then (σ 95 e, σ) else if w = 2 then (σ 96 e, σ) else if w = 3 then (σ 98 e, σ) else if w = 4 then (σ 99 e, σ) else if w = 5 then (σ 101 e, σ) else if w = 6 then (σ 102 e, σ) else if w = 7 then (if σ 103 e = 0 then (0, σ) else (1, σ)) else if w = 8 then (σ 104 e, σ) else if w = 9 then (σ 106 e, σ) else if w = 10 then (σ 107 e, σ) else (-1002, σ)
set_option maxHeartbeats 8000000 in
theorem R_end {e w n m : Int} (hI : IV σ n m) (hk : Q (some (vI (M_end e w σ).1)) (mg g (M_end e w σ).2)) : Runs G mm_X10_end [vR 89, vI e, vI w] (mg g σ) Q := by
  have hT := hI.s
  unfold M_end at hk
  refine rn_X10_end ?_
  simp (disch := omega) only [mg_in, mg_wr, wr_a, hT, forall_eq, true_and, inI, Int.add_zero]
  (repeat' (refine And.intro ?_ ?_)) <;> intros <;> (repeat' (refine And.intro ?_ ?_)) <;> intros <;> (repeat' (refine And.intro ?_ ?_)) <;> intros <;> (repeat' (refine And.intro ?_ ?_)) <;> intros <;> (repeat' (refine And.intro ?_ ?_)) <;> intros <;> (repeat' (refine And.intro ?_ ?_)) <;> intros <;> (repeat' (refine And.intro ?_ ?_)) <;> intros <;> (repeat' (refine And.intro ?_ ?_)) <;> intros
  all_goals first
    | omega
    | ((repeat (first | rw [if_pos (by omega)] at hk | rw [if_neg (by omega)] at hk)); exact hk)
def M_open (e i w : Int) (σ : Hp) : Int × Hp := if ¬ (0 ≤ e ∧ e ≤ 3) then (-1001, σ) else if ¬ (0 ≤ i ∧ i ≤ σ 96 e - 1) then (-1001, σ) else if ¬ (0 ≤ w ∧ w ≤ 4) then (-1002, σ) else (σ 97 (7 * (4 * e + i) + w), σ)
set_option maxHeartbeats 8000000 in
theorem R_open {e i w n m : Int} (hI : IV σ n m) (hk : Q (some (vI (M_open e i w σ).1)) (mg g (M_open e i w σ).2)) : Runs G mm_X10_open [vR 89, vI e, vI i, vI w] (mg g σ) Q := by
  have hT := hI.s
  have hE := hI.e e
  unfold M_open at hk
  refine rn_X10_open ?_
  simp (disch := omega) only [mg_in, mg_wr, wr_a, hT, forall_eq, true_and, inI, Int.add_zero]
  (repeat' split at hk) <;> (repeat' (refine And.intro ?_ ?_)) <;> intros <;> (repeat' (refine And.intro ?_ ?_)) <;> intros <;> (repeat' (refine And.intro ?_ ?_)) <;> intros <;> (repeat' (refine And.intro ?_ ?_)) <;> intros <;> (repeat' (refine And.intro ?_ ?_)) <;> intros <;> (repeat' (refine And.intro ?_ ?_)) <;> intros <;> (repeat' (refine And.intro ?_ ?_)) <;> intros <;> (repeat' (refine And.intro ?_ ?_)) <;> intros <;> (try have hE := hE (by omega) (by omega)) <;> first | omega | exact hk
def M_send (e v : Int) (σ : Hp) : Int × Hp := if ¬ (0 ≤ e ∧ e ≤ 3) then (-1001, σ) else if ¬ (0 ≤ v ∧ v ≤ 9999) then (-1002, σ) else (A_pst e 0 σ, F_pst e 0 v 0 0 σ)
set_option maxHeartbeats 8000000 in
theorem R_send {e v n m : Int} (hI : IV σ n m) (hm : m ≤ 99900) (hk : Q (some (vI (M_send e v σ).1)) (mg g (M_send e v σ).2)) : Runs G mm_X10_send [vR 89, vI e, vI v] (mg g σ) Q := by
  have hT := hI.s
  unfold M_send at hk
  refine rn_X10_send ?_
  simp (disch := omega) only [mg_in, mg_wr, wr_a, hT, forall_eq, true_and, inI, Int.add_zero]
  (repeat' split at hk) <;> (repeat' (refine And.intro ?_ ?_)) <;> intros <;> (repeat' (refine And.intro ?_ ?_)) <;> intros <;> (repeat' (refine And.intro ?_ ?_)) <;> intros <;> (repeat' (refine And.intro ?_ ?_)) <;> intros <;> (repeat' (refine And.intro ?_ ?_)) <;> intros <;> (repeat' (refine And.intro ?_ ?_)) <;> intros <;> (repeat' (refine And.intro ?_ ?_)) <;> intros <;> (repeat' (refine And.intro ?_ ?_)) <;> intros <;> first | omega | exact hk | exact R_pst hI (by omega) (by omega) (by omega) (sg_X10_send_35 hk)
def M_store (e v : Int) (σ : Hp) : Int × Hp := if ¬ (0 ≤ e ∧ e ≤ 3) then (-1001, σ) else if ¬ (0 ≤ v ∧ v ≤ 9999) then (-1002, σ) else (A_pst e 1 σ, F_pst e 1 v 0 0 σ)
set_option maxHeartbeats 8000000 in
theorem R_store {e v n m : Int} (hI : IV σ n m) (hm : m ≤ 99900) (hk : Q (some (vI (M_store e v σ).1)) (mg g (M_store e v σ).2)) : Runs G mm_X10_store [vR 89, vI e, vI v] (mg g σ) Q := by
  have hT := hI.s
  unfold M_store at hk
  refine rn_X10_store ?_
  simp (disch := omega) only [mg_in, mg_wr, wr_a, hT, forall_eq, true_and, inI, Int.add_zero]
  (repeat' split at hk) <;> (repeat' (refine And.intro ?_ ?_)) <;> intros <;> (repeat' (refine And.intro ?_ ?_)) <;> intros <;> (repeat' (refine And.intro ?_ ?_)) <;> intros <;> (repeat' (refine And.intro ?_ ?_)) <;> intros <;> (repeat' (refine And.intro ?_ ?_)) <;> intros <;> (repeat' (refine And.intro ?_ ?_)) <;> intros <;> (repeat' (refine And.intro ?_ ?_)) <;> intros <;> (repeat' (refine And.intro ?_ ?_)) <;> intros <;> first | omega | exact hk | exact R_pst hI (by omega) (by omega) (by omega) (sg_X10_store_35 hk)
def M_read (e c : Int) (σ : Hp) : Int × Hp := if ¬ (0 ≤ e ∧ e ≤ 3) then (-1001, σ) else if ¬ (0 ≤ c ∧ c ≤ 11) then (-1001, σ) else (A_pst e 2 σ, F_pst e 2 0 0 c σ)
set_option maxHeartbeats 8000000 in
theorem R_read {e c n m : Int} (hI : IV σ n m) (hm : m ≤ 99900) (hk : Q (some (vI (M_read e c σ).1)) (mg g (M_read e c σ).2)) : Runs G mm_X10_read [vR 89, vI e, vI c] (mg g σ) Q := by
  have hT := hI.s
  unfold M_read at hk
  refine rn_X10_read ?_
  simp (disch := omega) only [mg_in, mg_wr, wr_a, hT, forall_eq, true_and, inI, Int.add_zero]
  (repeat' split at hk) <;> (repeat' (refine And.intro ?_ ?_)) <;> intros <;> (repeat' (refine And.intro ?_ ?_)) <;> intros <;> (repeat' (refine And.intro ?_ ?_)) <;> intros <;> (repeat' (refine And.intro ?_ ?_)) <;> intros <;> (repeat' (refine And.intro ?_ ?_)) <;> intros <;> (repeat' (refine And.intro ?_ ?_)) <;> intros <;> (repeat' (refine And.intro ?_ ?_)) <;> intros <;> (repeat' (refine And.intro ?_ ?_)) <;> intros <;> first | omega | exact hk | exact R_pst hI (by omega) (by omega) (by omega) (sg_X10_read_29 hk)
def M_add (e v c : Int) (σ : Hp) : Int × Hp := if ¬ (0 ≤ e ∧ e ≤ 3) then (-1001, σ) else if ¬ (0 ≤ c ∧ c ≤ 11) then (-1001, σ) else if ¬ (0 ≤ v ∧ v ≤ 9999) then (-1002, σ) else (A_pst e 3 σ, F_pst e 3 v 0 c σ)
set_option maxHeartbeats 8000000 in
theorem R_add {e v c n m : Int} (hI : IV σ n m) (hm : m ≤ 99900) (hk : Q (some (vI (M_add e v c σ).1)) (mg g (M_add e v c σ).2)) : Runs G mm_X10_add [vR 89, vI e, vI v, vI c] (mg g σ) Q := by
  have hT := hI.s
  unfold M_add at hk
  refine rn_X10_add ?_
  simp (disch := omega) only [mg_in, mg_wr, wr_a, hT, forall_eq, true_and, inI, Int.add_zero]
  (repeat' split at hk) <;> (repeat' (refine And.intro ?_ ?_)) <;> intros <;> (repeat' (refine And.intro ?_ ?_)) <;> intros <;> (repeat' (refine And.intro ?_ ?_)) <;> intros <;> (repeat' (refine And.intro ?_ ?_)) <;> intros <;> (repeat' (refine And.intro ?_ ?_)) <;> intros <;> (repeat' (refine And.intro ?_ ?_)) <;> intros <;> (repeat' (refine And.intro ?_ ?_)) <;> intros <;> (repeat' (refine And.intro ?_ ?_)) <;> intros <;> first | omega | exact hk | exact R_pst hI (by omega) (by omega) (by omega) (sg_X10_add_42 hk)
def M_swap (e v w c : Int) (σ : Hp) : Int × Hp := if ¬ (0 ≤ e ∧ e ≤ 3) then (-1001, σ) else if ¬ (0 ≤ c ∧ c ≤ 11) then (-1001, σ) else if ¬ (0 ≤ v ∧ v ≤ 9999) then (-1002, σ) else if ¬ (0 ≤ w ∧ w ≤ 9999) then (-1002, σ) else (A_pst e 4 σ, F_pst e 4 v w c σ)
set_option maxHeartbeats 8000000 in
theorem R_swap {e v w c n m : Int} (hI : IV σ n m) (hm : m ≤ 99900) (hk : Q (some (vI (M_swap e v w c σ).1)) (mg g (M_swap e v w c σ).2)) : Runs G mm_X10_swap [vR 89, vI e, vI v, vI w, vI c] (mg g σ) Q := by
  have hT := hI.s
  unfold M_swap at hk
  refine rn_X10_swap ?_
  simp (disch := omega) only [mg_in, mg_wr, wr_a, hT, forall_eq, true_and, inI, Int.add_zero]
  (repeat' split at hk) <;> (repeat' (refine And.intro ?_ ?_)) <;> intros <;> (repeat' (refine And.intro ?_ ?_)) <;> intros <;> (repeat' (refine And.intro ?_ ?_)) <;> intros <;> (repeat' (refine And.intro ?_ ?_)) <;> intros <;> (repeat' (refine And.intro ?_ ?_)) <;> intros <;> (repeat' (refine And.intro ?_ ?_)) <;> intros <;> (repeat' (refine And.intro ?_ ?_)) <;> intros <;> (repeat' (refine And.intro ?_ ?_)) <;> intros <;> first | omega | exact hk | exact R_pst hI (by omega) (by omega) (by omega) (sg_X10_swap_51 hk)
def M_key (j k c l r : Int) (σ : Hp) : Int × Hp := if ¬ (0 ≤ j ∧ j ≤ 1) then (-1001, σ) else if ¬ (0 ≤ k ∧ k ≤ 3) then (-1001, σ) else if ¬ (0 ≤ c ∧ c ≤ 11) then (-1002, σ) else if ¬ (1 ≤ l ∧ l ≤ 12 - c) then (-1002, σ) else if ¬ (0 ≤ r ∧ r ≤ 7) then (-1002, σ) else (kc (F_keys (4 * j + k) c l r σ) j 4, F_keys (4 * j + k) c l r σ)
set_option maxHeartbeats 8000000 in
theorem R_key {j k c l r n m : Int} (hI : IV σ n m) (hk : Q (some (vI (M_key j k c l r σ).1)) (mg g (M_key j k c l r σ).2)) : Runs G mm_X10_key [vR 89, vI j, vI k, vI c, vI l, vI r] (mg g σ) Q := by
  have hT := hI.s
  unfold M_key at hk
  refine rn_X10_key ?_
  simp (disch := omega) only [mg_in, mg_wr, wr_a, hT, forall_eq, true_and, inI, Int.add_zero]
  (repeat' split at hk) <;> (repeat' (refine And.intro ?_ ?_)) <;> intros <;> (repeat' (refine And.intro ?_ ?_)) <;> intros <;> (repeat' (refine And.intro ?_ ?_)) <;> intros <;> (repeat' (refine And.intro ?_ ?_)) <;> intros <;> (repeat' (refine And.intro ?_ ?_)) <;> intros <;> (repeat' (refine And.intro ?_ ?_)) <;> intros <;> (repeat' (refine And.intro ?_ ?_)) <;> intros <;> (repeat' (refine And.intro ?_ ?_)) <;> intros <;> first
    | omega
    | exact hk
    | (refine R_keys hT (by omega) (by omega) ?_
       have hT2 : ST (F_keys (4 * j + k) c l r σ) := st_wr (st_wr (st_wr hT (by decide) (by decide) (by omega)) (by decide) (by decide) (by omega)) (by decide) (by decide) (by omega)
       refine sg_X10_key_76 ⟨by rw [mg_in (by decide) (by decide)]; exact hT2.1, ?_⟩
       exact R_keysOf hT2 (by omega) (by omega) (sg_X10_key_81 hk))
def M_lock (j k : Int) (σ : Hp) : Int × Hp := if ¬ (0 ≤ j ∧ j ≤ 1) then (-1001, σ) else if ¬ (0 ≤ k ∧ k ≤ 3) then (-1001, σ) else if σ 92 (4 * j + k) = 0 then (-1003, σ) else (kc (wr σ 92 (4 * j + k) 0) j 4, wr σ 92 (4 * j + k) 0)
set_option maxHeartbeats 8000000 in
theorem R_lock {j k n m : Int} (hI : IV σ n m) (hk : Q (some (vI (M_lock j k σ).1)) (mg g (M_lock j k σ).2)) : Runs G mm_X10_lock [vR 89, vI j, vI k] (mg g σ) Q := by
  have hT := hI.s
  unfold M_lock at hk
  refine rn_X10_lock ?_
  simp (disch := omega) only [mg_in, mg_wr, wr_a, hT, forall_eq, true_and, inI, Int.add_zero]
  (repeat' split at hk) <;> (repeat' (refine And.intro ?_ ?_)) <;> intros <;> (repeat' (refine And.intro ?_ ?_)) <;> intros <;> (repeat' (refine And.intro ?_ ?_)) <;> intros <;> (repeat' (refine And.intro ?_ ?_)) <;> intros <;> (repeat' (refine And.intro ?_ ?_)) <;> intros <;> (repeat' (refine And.intro ?_ ?_)) <;> intros <;> (repeat' (refine And.intro ?_ ?_)) <;> intros <;> (repeat' (refine And.intro ?_ ?_)) <;> intros <;> first
    | omega
    | exact hk
    | exact R_keysOf (st_wr hT (by decide) (by decide) (by omega)) (by omega) (by omega) (sg_X10_lock_56 hk)
def M_tear (e : Int) (σ : Hp) : Int × Hp := if ¬ (0 ≤ e ∧ e ≤ 3) then (-1001, σ) else if ¬ σ 94 e = 1 then (-1003, σ) else (σ 96 e + σ 99 e, F_brk e σ)
set_option maxHeartbeats 8000000 in
theorem R_tear {e n m : Int} (hI : IV σ n m) (hk : Q (some (vI (M_tear e σ).1)) (mg g (M_tear e σ).2)) : Runs G mm_X10_tear [vR 89, vI e] (mg g σ) Q := by
  have hT := hI.s
  have hE := hI.e e
  unfold M_tear at hk
  refine rn_X10_tear ?_
  simp (disch := omega) only [mg_in, mg_wr, wr_a, hT, forall_eq, true_and, inI, Int.add_zero]
  (repeat' split at hk) <;> (repeat' (refine And.intro ?_ ?_)) <;> intros <;> (repeat' (refine And.intro ?_ ?_)) <;> intros <;> (repeat' (refine And.intro ?_ ?_)) <;> intros <;> (repeat' (refine And.intro ?_ ?_)) <;> intros <;> (repeat' (refine And.intro ?_ ?_)) <;> intros <;> (repeat' (refine And.intro ?_ ?_)) <;> intros <;> (repeat' (refine And.intro ?_ ?_)) <;> intros <;> (repeat' (refine And.intro ?_ ?_)) <;> intros <;> (try have hE := hE (by omega) (by omega)) <;> first
    | omega
    | exact hk
    | exact R_brkI hI (by omega) (by omega) (sg_X10_tear_44 hk)
def M_tick (e : Int) (σ : Hp) : Int × Hp := if ¬ (0 ≤ e ∧ e ≤ 3) then (-1001, σ) else if ¬ σ 94 e = 1 then (-1003, σ) else if σ 96 e = 0 then (-1003, σ) else (if F_agn e σ 94 e = 1 then F_agn e σ 101 e else 0, F_agn e σ)
set_option maxHeartbeats 8000000 in
theorem R_tick {e n m : Int} (hI : IV σ n m) (hm : m ≤ 99900) (hk : Q (some (vI (M_tick e σ).1)) (mg g (M_tick e σ).2)) : Runs G mm_X10_tick [vR 89, vI e] (mg g σ) Q := by
  have hT := hI.s
  have hE := hI.e e
  unfold M_tick at hk
  refine rn_X10_tick ?_
  simp (disch := omega) only [mg_in, mg_wr, wr_a, hT, forall_eq, true_and, inI, Int.add_zero]
  by_cases h : 0 ≤ e ∧ e ≤ 3
  · have hE := hE h.1 (by omega)
    rw [if_neg (not_not_intro h)] at hk
    by_cases h2 : σ 94 e = 1
    · rw [if_neg (not_not_intro h2)] at hk
      by_cases h3 : σ 96 e = 0
      · rw [if_pos h3] at hk
        (repeat' (refine And.intro ?_ ?_)) <;> intros <;> (repeat' (refine And.intro ?_ ?_)) <;> intros <;> (repeat' (refine And.intro ?_ ?_)) <;> intros <;> (repeat' (refine And.intro ?_ ?_)) <;> intros <;> (repeat' (refine And.intro ?_ ?_)) <;> intros <;> (repeat' (refine And.intro ?_ ?_)) <;> intros <;> (repeat' (refine And.intro ?_ ?_)) <;> intros <;> (repeat' (refine And.intro ?_ ?_)) <;> intros
        all_goals first | omega | exact hk
      · rw [if_neg h3] at hk
        have hR : Runs G mm_X10_again [vR 89, vI e] (mg g σ) (fun r h' => AW G mm_X10_tick (0, 0) 39 [(0, vR 89), (1, vI e)] (r.toList ++ []) h' Q) := by
          refine R_agnI hI (by omega) h.1 (by omega) (by omega) ?_
          have hT := (iv_agn hI (by omega) h.1 (by omega) (by omega)).s
          refine sg_X10_tick_39 ?_
          simp (disch := omega) only [mg_in, mg_wr, wr_a, hT, forall_eq, true_and, inI, Int.add_zero]
          by_cases h4 : F_agn e σ 94 e = 1
          · have hk : Q (some (vI (if F_agn e σ 94 e = 1 then F_agn e σ 101 e else 0))) (mg g (F_agn e σ)) := hk
            rw [if_pos h4] at hk
            (repeat' (refine And.intro ?_ ?_)) <;> intros <;> (repeat' (refine And.intro ?_ ?_)) <;> intros <;> (repeat' (refine And.intro ?_ ?_)) <;> intros <;> (repeat' (refine And.intro ?_ ?_)) <;> intros <;> (repeat' (refine And.intro ?_ ?_)) <;> intros <;> (repeat' (refine And.intro ?_ ?_)) <;> intros <;> (repeat' (refine And.intro ?_ ?_)) <;> intros <;> (repeat' (refine And.intro ?_ ?_)) <;> intros
            all_goals first | omega | exact hk
          · have hk : Q (some (vI (if F_agn e σ 94 e = 1 then F_agn e σ 101 e else 0))) (mg g (F_agn e σ)) := hk
            rw [if_neg h4] at hk
            (repeat' (refine And.intro ?_ ?_)) <;> intros <;> (repeat' (refine And.intro ?_ ?_)) <;> intros <;> (repeat' (refine And.intro ?_ ?_)) <;> intros <;> (repeat' (refine And.intro ?_ ?_)) <;> intros <;> (repeat' (refine And.intro ?_ ?_)) <;> intros <;> (repeat' (refine And.intro ?_ ?_)) <;> intros <;> (repeat' (refine And.intro ?_ ?_)) <;> intros <;> (repeat' (refine And.intro ?_ ?_)) <;> intros
            all_goals first | omega | exact hk
        (repeat' (refine And.intro ?_ ?_)) <;> intros <;> (repeat' (refine And.intro ?_ ?_)) <;> intros <;> (repeat' (refine And.intro ?_ ?_)) <;> intros <;> (repeat' (refine And.intro ?_ ?_)) <;> intros <;> (repeat' (refine And.intro ?_ ?_)) <;> intros <;> (repeat' (refine And.intro ?_ ?_)) <;> intros <;> (repeat' (refine And.intro ?_ ?_)) <;> intros <;> (repeat' (refine And.intro ?_ ?_)) <;> intros
        all_goals first | omega | exact hR
    · rw [if_pos h2] at hk
      (repeat' (refine And.intro ?_ ?_)) <;> intros <;> (repeat' (refine And.intro ?_ ?_)) <;> intros <;> (repeat' (refine And.intro ?_ ?_)) <;> intros <;> (repeat' (refine And.intro ?_ ?_)) <;> intros <;> (repeat' (refine And.intro ?_ ?_)) <;> intros <;> (repeat' (refine And.intro ?_ ?_)) <;> intros <;> (repeat' (refine And.intro ?_ ?_)) <;> intros <;> (repeat' (refine And.intro ?_ ?_)) <;> intros
      all_goals first | omega | exact hk
  · rw [if_pos h] at hk
    (repeat' (refine And.intro ?_ ?_)) <;> intros <;> (repeat' (refine And.intro ?_ ?_)) <;> intros <;> (repeat' (refine And.intro ?_ ?_)) <;> intros <;> (repeat' (refine And.intro ?_ ?_)) <;> intros <;> (repeat' (refine And.intro ?_ ?_)) <;> intros <;> (repeat' (refine And.intro ?_ ?_)) <;> intros <;> (repeat' (refine And.intro ?_ ?_)) <;> intros <;> (repeat' (refine And.intro ?_ ?_)) <;> intros
    all_goals first | omega | exact hk
def M_packet (w : Int) (σ : Hp) : Int × Hp := if ¬ (0 ≤ w ∧ w ≤ 4) then (-1002, σ) else if σ 89 21 = 0 then (-1003, σ) else if w = 0 then (σ 109 (11 * fpi σ), σ) else if w = 1 then (σ 109 (11 * fpi σ + 1), σ) else if w = 2 then (σ 109 (11 * fpi σ + 2), σ) else if w = 3 then (σ 109 (11 * fpi σ + 9), σ) else (σ 109 (11 * fpi σ + 8), σ)
set_option maxHeartbeats 8000000 in
theorem R_packet {w n m : Int} (hI : IV σ n m) (hk : Q (some (vI (M_packet w σ).1)) (mg g (M_packet w σ).2)) : Runs G mm_X10_packet [vR 89, vI w] (mg g σ) Q := by
  have hT := hI.s
  obtain ⟨hq1, -, -, -, -, -, -⟩ := hI.q
  unfold M_packet at hk
  refine rn_X10_packet ?_
  simp (disch := omega) only [mg_in, mg_wr, wr_a, hT, forall_eq, true_and, inI, Int.add_zero]
  (repeat' split at hk) <;> (repeat' (refine And.intro ?_ ?_)) <;> intros <;> (repeat' (refine And.intro ?_ ?_)) <;> intros <;> (repeat' (refine And.intro ?_ ?_)) <;> intros <;> (repeat' (refine And.intro ?_ ?_)) <;> intros <;> (repeat' (refine And.intro ?_ ?_)) <;> intros <;> (repeat' (refine And.intro ?_ ?_)) <;> intros <;> (repeat' (refine And.intro ?_ ?_)) <;> intros <;> (repeat' (refine And.intro ?_ ?_)) <;> intros <;> first
    | omega
    | exact hk
    | (refine R_fst hI (by omega) ?_
       have hf := fpi_in (σ := σ) (by omega)
       refine sg_X10_packet_33 ?_
       simp (disch := omega) only [mg_in, mg_wr, wr_a, hT, forall_eq, true_and, inI, Int.add_zero]
       (repeat' (refine And.intro ?_ ?_)) <;> intros <;> (repeat' (refine And.intro ?_ ?_)) <;> intros <;> (repeat' (refine And.intro ?_ ?_)) <;> intros <;> (repeat' (refine And.intro ?_ ?_)) <;> intros <;> (repeat' (refine And.intro ?_ ?_)) <;> intros <;> (repeat' (refine And.intro ?_ ?_)) <;> intros <;> (repeat' (refine And.intro ?_ ?_)) <;> intros <;> (repeat' (refine And.intro ?_ ?_)) <;> intros
       all_goals first | omega | exact hk)
theorem L_cells (hT : ST σ) (hI : Ic σ) (hk : Q (some (vI (cc σ 24))) (mg g σ)) : ∀ (n i : Nat), i + n = 24 → AW G mm_X10_allCells b 4 [(0, vR 89), (1, vI (cc σ i)), (2, vI (i : Int))] [] (mg g σ) Q := by
  intro n
  induction n with
  | zero =>
    intro i hi
    have hi4 : i = 24 := by omega
    subst hi4
    refine sg_X10_allCells_4 ⟨fun _ => hk, fun hc => absurd hc (by decide)⟩
  | succ n ih =>
    intro i hi
    have kb := cc_in hI i (by omega)
    have hc := hI i (by omega) (by omega)
    have e1 : cc σ (i + 1) = cc σ i + σ 90 i := rfl
    have ihk := ih (i + 1) (by omega)
    rw [e1, show ((i + 1 : Nat) : Int) = (i : Int) + 1 from rfl] at ihk
    refine sg_X10_allCells_4 ⟨fun hc => absurd hc (by omega), fun _ => ?_⟩
    simp (disch := omega) only [mg_in, mg_wr, wr_a, hT, forall_eq, true_and, inI, Int.add_zero]
    (repeat' (refine And.intro ?_ ?_)) <;> intros <;> (repeat' (refine And.intro ?_ ?_)) <;> intros <;> (repeat' (refine And.intro ?_ ?_)) <;> intros <;> (repeat' (refine And.intro ?_ ?_)) <;> intros
    all_goals first | omega | exact ihk
theorem R_cells (hT : ST σ) (hI : Ic σ) (hk : Q (some (vI (cc σ 24))) (mg g σ)) : Runs G mm_X10_allCells [vR 89] (mg g σ) Q := rn_X10_allCells (L_cells hT hI hk 24 0 rfl)
def M_count (w : Int) (σ : Hp) : Int × Hp := if w = 0 then (σ 89 21, σ) else if w = 1 then (σ 89 19, σ) else if w = 2 ∨ w = 3 then (σ 112 (w - 2) - σ 111 (w - 2), σ) else if w = 4 then (rc σ 4, σ) else if w = 5 then (cc σ 24, σ) else if w = 6 then (σ 89 28, σ) else if w = 7 then (σ 89 31, σ) else if w = 8 then (σ 89 29, σ) else (-1002, σ)
set_option maxHeartbeats 8000000 in
theorem R_count {w n m : Int} (hI : IV σ n m) (hk : Q (some (vI (M_count w σ).1)) (mg g (M_count w σ).2)) : Runs G mm_X10_count [vR 89, vI w] (mg g σ) Q := by
  have hT := hI.s
  have hN := hI.n
  have tw : w = 2 ∨ w = 3 → 0 ≤ σ 111 (w - 2) ∧ σ 111 (w - 2) ≤ σ 112 (w - 2) ∧ σ 112 (w - 2) ≤ 512 := fun h => by
    have a1 := hI.t (w - 2) (by omega) (by omega)
    have a2 := hI.e (w - 2) (by omega) (by omega)
    have a3 := hI.e (w - 2 + 2) (by omega) (by omega)
    omega
  unfold M_count at hk
  refine rn_X10_count ?_
  simp (disch := omega) only [mg_in, mg_wr, wr_a, hT, forall_eq, true_and, inI, Int.add_zero]
  (repeat' (refine And.intro ?_ ?_)) <;> intros <;> (repeat' (refine And.intro ?_ ?_)) <;> intros <;> (repeat' (refine And.intro ?_ ?_)) <;> intros <;> (repeat' (refine And.intro ?_ ?_)) <;> intros <;> (repeat' (refine And.intro ?_ ?_)) <;> intros <;> (repeat' (refine And.intro ?_ ?_)) <;> intros <;> (repeat' (refine And.intro ?_ ?_)) <;> intros <;> (repeat' (refine And.intro ?_ ?_)) <;> intros
  all_goals first
    | omega
    | ((repeat (first | rw [if_pos (by omega)] at hk | rw [if_neg (by omega)] at hk)); exact hk)
    | ((repeat (first | rw [if_pos (by omega)] at hk | rw [if_neg (by omega)] at hk)); exact R_readyEnds hT (sg_X10_count_84 hk))
    | ((repeat (first | rw [if_pos (by omega)] at hk | rw [if_neg (by omega)] at hk)); exact R_cells hT hI.c (sg_X10_count_89 hk))
    | (have tw := tw (by omega); omega)
def M_take (j : Int) (σ : Hp) : Int × Hp := if ¬ (0 ≤ j ∧ j ≤ 1) then (-1001, σ) else if σ 111 j = σ 112 j then (-1, σ) else (σ 110 (5 * (600 * j + σ 111 j) + 3), wr (wr (cpx (wr σ 113 0 j) 113 1 110 (5 * (600 * j + σ 111 j)) 5) 111 j (σ 111 j + 1)) 89 27 1)
set_option maxHeartbeats 4000000 in
theorem L_mtake {j n m : Int} (hI : IV σ n m) (h0 : 0 ≤ j) (h1 : j ≤ 1) (hne : ¬ σ 111 j = σ 112 j) (hk : Q (some (vI (σ 110 (5 * (600 * j + σ 111 j) + 3)))) (mg g (wr (wr (cpx (wr σ 113 0 j) 113 1 110 (5 * (600 * j + σ 111 j)) 5) 111 j (σ 111 j + 1)) 89 27 1))) : ∀ (k : Nat) (i : Int), 0 ≤ i → i + k = 5 → AW G mm_X10_take b 37 [(0, vR 89), (1, vI j), (2, vI i)] [] (mg g (cpx (wr σ 113 0 j) 113 1 110 (5 * (600 * j + σ 111 j)) i)) Q := by
  have ht := hI.t j h0 (by omega)
  have hN := hI.n
  have a1 := hI.e j h0 (by omega)
  have a2 := hI.e (j + 2) (by omega) (by omega)
  have hS : ST (wr σ 113 0 j) := st_wr hI.s (by decide) (by decide) (Int.le_refl 0)
  intro k
  induction k with
  | zero =>
    intro i i0 hi
    have hi2 : i = 5 := by omega
    subst hi2
    have hT := st_cpx (a := 113) (dst := 1) (b := 110) (src := 5 * (600 * j + σ 111 j)) (n := 5) hS (by decide) (by decide) (by decide)
    have f11 : ∀ x, cpx (wr σ 113 0 j) 113 1 110 (5 * (600 * j + σ 111 j)) 5 111 x = σ 111 x := fun x => by rw [cpx_off (by decide), wr_a (by decide)]
    have f13 : cpx (wr σ 113 0 j) 113 1 110 (5 * (600 * j + σ 111 j)) 5 113 4 = σ 110 (5 * (600 * j + σ 111 j) + 3) := by
      rw [cpx_in (by decide) (by decide), wr_a (by decide)]
      congr 1
      omega
    refine sg_X10_take_37 ?_
    simp (disch := omega) only [mg_in, mg_wr, wr_a, hT, forall_eq, true_and, inI, Int.add_zero]
    simp only [f11, f13]
    (repeat' (refine And.intro ?_ ?_)) <;> intros <;> (repeat' (refine And.intro ?_ ?_)) <;> intros <;> (repeat' (refine And.intro ?_ ?_)) <;> intros <;> (repeat' (refine And.intro ?_ ?_)) <;> intros <;> (repeat' (refine And.intro ?_ ?_)) <;> intros <;> (repeat' (refine And.intro ?_ ?_)) <;> intros <;> (repeat' (refine And.intro ?_ ?_)) <;> intros <;> (repeat' (refine And.intro ?_ ?_)) <;> intros
    all_goals first | omega | exact hk
  | succ k ih =>
    intro i i0 hi
    have hT := st_cpx (a := 113) (dst := 1) (b := 110) (src := 5 * (600 * j + σ 111 j)) (n := i) hS (by decide) (by decide) (by decide)
    have f11 : ∀ x, cpx (wr σ 113 0 j) 113 1 110 (5 * (600 * j + σ 111 j)) i 111 x = σ 111 x := fun x => by rw [cpx_off (by decide), wr_a (by decide)]
    have ihk := ih (i + 1) (by omega) (by omega)
    rw [← cpx_s i0 (Or.inl (by decide))] at ihk
    refine sg_X10_take_37 ?_
    simp (disch := omega) only [mg_in, mg_wr, wr_a, hT, forall_eq, true_and, inI, Int.add_zero]
    simp only [f11]
    (repeat' (refine And.intro ?_ ?_)) <;> intros <;> (repeat' (refine And.intro ?_ ?_)) <;> intros <;> (repeat' (refine And.intro ?_ ?_)) <;> intros <;> (repeat' (refine And.intro ?_ ?_)) <;> intros <;> (repeat' (refine And.intro ?_ ?_)) <;> intros <;> (repeat' (refine And.intro ?_ ?_)) <;> intros <;> (repeat' (refine And.intro ?_ ?_)) <;> intros <;> (repeat' (refine And.intro ?_ ?_)) <;> intros
    all_goals first | omega | exact ihk
set_option maxHeartbeats 4000000 in
theorem R_take {j n m : Int} (hI : IV σ n m) (hk : Q (some (vI (M_take j σ).1)) (mg g (M_take j σ).2)) : Runs G mm_X10_take [vR 89, vI j] (mg g σ) Q := by
  have hT := hI.s
  unfold M_take at hk
  refine rn_X10_take ?_
  simp (disch := omega) only [mg_in, mg_wr, wr_a, hT, forall_eq, true_and, inI, Int.add_zero]
  (repeat' split at hk) <;> (repeat' (refine And.intro ?_ ?_)) <;> intros <;> (repeat' (refine And.intro ?_ ?_)) <;> intros <;> (repeat' (refine And.intro ?_ ?_)) <;> intros <;> (repeat' (refine And.intro ?_ ?_)) <;> intros <;> (repeat' (refine And.intro ?_ ?_)) <;> intros <;> (repeat' (refine And.intro ?_ ?_)) <;> intros <;> (repeat' (refine And.intro ?_ ?_)) <;> intros <;> (repeat' (refine And.intro ?_ ?_)) <;> intros <;> first
    | omega
    | exact hk
    | (have hL := L_mtake (G := G) (b := (0, 0)) (Q := Q) (g := g) (j := j) hI (by omega) (by omega) (by assumption) hk 5 0 (Int.le_refl 0) rfl
       rw [cpx_0] at hL
       exact hL)
end RA
