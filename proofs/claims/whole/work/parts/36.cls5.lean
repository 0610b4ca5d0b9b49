set_option maxHeartbeats 2000000 in
set_option maxRecDepth 20000 in
theorem s_power (m : jM) (b n : Nat) (hn : n ≤ 16) : iX mX3_power [.int (nI b), .int (nI n)] m (fun v m1 => m = m1 ∧ v = nI (b ^ n)) := by
  refine jX_of (L := [some (.int (nI b)), some (.int (nI n)), none, none]) 2 rfl rfl (by decide +kernel) rfl ?_
  refine e_iconst (v := 1) dX3_power_0 rfl ?_
  refine e_istore_n (L' := [some (.int (nI b)), some (.int (nI n)), some (.int 1), none]) dX3_power_1 (Nat.le_of_ble_eq_true rfl) (Nat.le_of_ble_eq_true rfl) (jnl_at (i := 1) rfl) rfl ?_
  refine e_iconst (v := 0) dX3_power_2 rfl ?_
  refine e_istore_n (L' := [some (.int (nI b)), some (.int (nI n)), some (.int 1), some (.int 0)]) dX3_power_3 (Nat.le_of_ble_eq_true rfl) (Nat.le_of_ble_eq_true rfl) (jnl_at (i := 2) rfl) rfl ?_
  refine e_loop 4 n (fun k => [some (.int (nI b)), some (.int (nI n)), some (.int (nI (b ^ k))), some (.int (nI k))]) (fun k => m) 0 (Nat.zero_le _) (by rw [Nat.pow_zero]; rfl) (rfl) ?_ ?_
  · show jE _ _ 4 [some (.int (nI b)), some (.int (nI n)), some (.int (nI (b ^ n))), some (.int (nI n))] [] m
    refine e_iload_n dX3_power_4 rfl ?_
    refine e_iload_n dX3_power_5 rfl ?_
    refine e_icmp_ge 19 dX3_power_6 (by decide) (fun c6 => ?_) (fun h => absurd (j_done rfl rfl) h)
    refine e_iload_n dX3_power_19 rfl ?_
    exact e_iret dX3_power_20 rfl (⟨rfl, rfl⟩)
  · intro k hk ih
    show jE _ _ 4 [some (.int (nI b)), some (.int (nI n)), some (.int (nI (b ^ k))), some (.int (nI k))] [] m
    refine e_iload_n dX3_power_4 rfl ?_
    refine e_iload_n dX3_power_5 rfl ?_
    refine e_icmp_ge 19 dX3_power_6 (by decide) (fun h => absurd h (j_more (N := n) rfl rfl (by omega) (by omega))) (fun c6 => ?_)
    refine e_iload_n dX3_power_9 rfl ?_
    refine e_iload_n dX3_power_10 rfl ?_
    refine e_imul dX3_power_11 ?_
    refine e_istore_n (L' := [some (.int (nI b)), some (.int (nI n)), some (.int ((nI (b ^ k)) * (nI b))), some (.int (nI k))]) dX3_power_12 (Nat.le_of_ble_eq_true rfl) (Nat.le_of_ble_eq_true rfl) (jnl_at (i := 1) rfl) rfl ?_
    refine e_iinc (v := nI (k + 1)) (L' := [some (.int (nI b)), some (.int (nI n)), some (.int ((nI (b ^ k)) * (nI b))), some (.int (nI (k + 1)))]) dX3_power_13 rfl (j_inc rfl) (by decide) (jnl_at (i := 2) rfl) rfl ?_
    refine e_goto 4 dX3_power_16 (by decide) ?_
    rw [show nI (b ^ k) * nI b = nI (b ^ (k + 1)) from j_mul rfl rfl]
    exact ih
