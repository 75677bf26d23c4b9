/-! links that 11.meth has not -/
theorem nl_X1_9 : ∃ q, vwCl[8]? = some q ∧ Cond.classLink RX1 9 q.1 ∈ gw := ⟨_, rfl, gw_at 271 (by decide +kernel) rfl⟩
theorem nl_X2_15 : ∃ q, vwCl[3]? = some q ∧ Cond.classLink RX2 15 q.1 ∈ gw := ⟨_, rfl, gw_at 208 (by decide +kernel) rfl⟩
theorem nl_X7_9 : ∃ q, vwCl[5]? = some q ∧ Cond.classLink RX7 9 q.1 ∈ gw := ⟨_, rfl, gw_at 92 (by decide +kernel) rfl⟩
theorem nl_X9_9 : ∃ q, vwCl[2]? = some q ∧ Cond.classLink RX9 9 q.1 ∈ gw := ⟨_, rfl, gw_at 82 (by decide +kernel) rfl⟩
theorem nl_X9_15 : ∃ q, vwCl[1]? = some q ∧ Cond.classLink RX9 15 q.1 ∈ gw := ⟨_, rfl, gw_at 84 (by decide +kernel) rfl⟩
