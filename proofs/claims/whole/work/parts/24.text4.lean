set_option maxHeartbeats 2000000 in
set_option maxRecDepth 20000 in
theorem s_Dkitchen (m : jM) (len : Nat) (hl : len ≤ 120) (hb : m 98 8 = nI len) : iX mX4_kitchen [.ref 98] m (fun v m1 => (∃ e q, kitP (m 104) len (va_cpy (fun _ => 0) (m 105) 0 0 51) = .inl (e, q) ∧ v = -1000100 - nI q ∧ (∀ c, c ≠ 98 → c ≠ 105 → m1 c = m c) ∧ (∀ f, f < 8 ∨ 14 < f → m1 98 f = m 98 f) ∧ m1 98 8 = 0 ∧ m1 98 9 = e) ∨ (∃ rd q, kitP (m 104) len (va_cpy (fun _ => 0) (m 105) 0 0 51) = .inr (rd, q) ∧ v = rd 2 ∧ (∀ c, c ≠ 98 → c ≠ 105 → c ≠ 102 → m1 c = m c) ∧ (∀ f, f ≠ 4 → f ≠ 18 → f < 8 ∨ 9 ≤ f ∧ f < 10 ∨ 14 < f → m1 98 f = m 98 f) ∧ m1 98 8 = 0 ∧ m1 98 4 = 1 ∧ m1 98 18 = 0 ∧ m1 102 = va_cpy rd (m 102) 0 0 51)) := by
  refine jX_of (L := [some (.ref 98), none, none]) 2 rfl rfl (by decide +kernel) rfl ?_
  refine e_aload_n dX4_kitchen_0 rfl ?_
  refine e_callVi (n := 0) mX4_readKitchen [] dX4_kitchen_1 ckX4_135 rfl (by decide +kernel) rfl rfl rfl rfl (Nat.le_of_ble_eq_true rfl) ⟨Nat.zero_le _, Nat.zero_le _⟩ (s_readKitchen m len hl hb) (fun v1 mr hmr => ?_)
  rcases hmr with ⟨pfR, ⟨eR, qR, hrR, rfl, heR, hqR⟩ | ⟨rdR, qR, hrR, rfl, hrdR, htokR⟩⟩
  · refine e_istore_n (L' := [some (.ref 98), some (.int 0), none]) dX4_kitchen_4 (Nat.le_of_ble_eq_true rfl) (Nat.le_of_ble_eq_true rfl) (jnl_at (i := 0) rfl) rfl ?_
    refine e_aload_n dX4_kitchen_5 rfl ?_
    refine e_iconst (v := 0) dX4_kitchen_6 rfl ?_
    refine e_putI dX4_kitchen_7 lkX4_84 rfl rfl fwX4_8 (Or.inl rfl) (fun ma hma => ?_)
    refine e_iload_n dX4_kitchen_10 rfl ?_
    refine e_if_ne 30 dX4_kitchen_11 (by decide) (fun h => absurd h (by decide)) (fun c11 => ?_)
    refine e_aload_n dX4_kitchen_14 rfl ?_
    refine e_aload_n dX4_kitchen_15 rfl ?_
    refine e_getI dX4_kitchen_16 lkX4_108 rfl rfl ?_
    rw [show ma 98 14 = eR from by rw [hma, jup_s, upd_n _ _ (by decide)]; exact heR]
    refine e_putI dX4_kitchen_19 lkX4_138 rfl rfl fwX4_9 (Or.inl rfl) (fun mb hmb => ?_)
    refine e_ldc dX4_kitchen_22 kkX4_141 ?_
    refine e_aload_n dX4_kitchen_24 rfl ?_
    refine e_getI dX4_kitchen_25 lkX4_91 rfl rfl ?_
    rw [show mb 98 13 = nI qR from by rw [hmb, jup_s, upd_n _ _ (by decide), hma, jup_s, upd_n _ _ (by decide)]; exact hqR]
    refine e_isub dX4_kitchen_28 ?_
    exact e_iret dX4_kitchen_29 rfl (by
        refine Or.inl ⟨eR, qR, hrR, rfl, fun c a b => by rw [hmb, jup_n _ _ a, hma, jup_n _ _ a]; exact pfR.1 c a b, fun f a => ?_, ?_, ?_⟩
        · rw [hmb, jup_s, upd_n _ _ (by omega), hma, jup_s, upd_n _ _ (by omega)]
          exact pfR.2 f (by omega)
        · rw [hmb, jup_s, upd_n _ _ (by decide), hma, jup_s, upd_s]
        · rw [hmb, jup_s, upd_s])
  · refine e_istore_n (L' := [some (.ref 98), some (.int 1), none]) dX4_kitchen_4 (Nat.le_of_ble_eq_true rfl) (Nat.le_of_ble_eq_true rfl) (jnl_at (i := 0) rfl) rfl ?_
    refine e_aload_n dX4_kitchen_5 rfl ?_
    refine e_iconst (v := 0) dX4_kitchen_6 rfl ?_
    refine e_putI dX4_kitchen_7 lkX4_84 rfl rfl fwX4_8 (Or.inl rfl) (fun ma hma => ?_)
    refine e_iload_n dX4_kitchen_10 rfl ?_
    refine e_if_ne 30 dX4_kitchen_11 (by decide) (fun c11 => ?_) (fun h => absurd h (by decide))
    refine e_iconst (v := 0) dX4_kitchen_30 rfl ?_
    refine e_istore_n (L' := [some (.ref 98), some (.int 1), some (.int 0)]) dX4_kitchen_31 (Nat.le_of_ble_eq_true rfl) (Nat.le_of_ble_eq_true rfl) (jnl_at (i := 1) rfl) rfl ?_
    have g105 : ma 105 = rdR := by rw [hma, jup_n _ _ (by decide)]; exact hrdR
    refine e_loop 32 51 (fun k => [some (.ref 98), some (.int 1), some (.int (nI k))]) (fun k => jup ma 102 (va_cpy rdR (ma 102) 0 0 k)) 0 (Nat.zero_le _) rfl (by rw [cpy_0, jup_id]) ?_ ?_
    · show jE _ _ 32 [some (.ref 98), some (.int 1), some (.int (nI 51))] [] (jup ma 102 (va_cpy rdR (ma 102) 0 0 51))
      obtain ⟨mz, hmz⟩ : ∃ y : jM, y = jup ma 102 (va_cpy rdR (ma 102) 0 0 51) := ⟨_, rfl⟩
      refine e_start rfl hmz.symm ?_
      have g105 : ma 105 = rdR := by rw [hma, jup_n _ _ (by decide)]; exact hrdR
      refine e_iload_n dX4_kitchen_32 rfl ?_
      refine e_bipush (v := 51) dX4_kitchen_33 rfl ?_
      refine e_icmp_ge 56 dX4_kitchen_35 (by decide) (fun c35 => ?_) (fun h => absurd (j_done rfl rfl) h)
      refine e_aload_n dX4_kitchen_56 rfl ?_
      refine e_iconst (v := 1) dX4_kitchen_57 rfl ?_
      refine e_putI dX4_kitchen_58 lkX4_142 rfl rfl fwX4_4 (Or.inr ⟨rfl, by decide⟩) (fun mc hmc => ?_)
      refine e_aload_n dX4_kitchen_61 rfl ?_
      refine e_iconst (v := 0) dX4_kitchen_62 rfl ?_
      refine e_putI dX4_kitchen_63 lkX4_146 rfl rfl fwX4_18 (Or.inl rfl) (fun md hmd => ?_)
      refine e_aload_n dX4_kitchen_66 rfl ?_
      refine e_getR (o := 4) (b := 102) dX4_kitchen_67 lkX4_19 rfl rfl (by decide) rfl ?_
      refine e_iconst (v := 2) dX4_kitchen_70 rfl ?_
      refine e_iald dX4_kitchen_71 rfl 2 rfl (by decide) (by decide) ?_
      rw [show md 102 2 = rdR 2 from by rw [hmd, jup_n _ _ (by decide), hmc, jup_n _ _ (by decide), hmz, jup_s]; rfl]
      exact e_iret dX4_kitchen_72 rfl (by
        refine Or.inr ⟨rdR, qR, hrR, rfl, fun c a b d => ?_, fun f a b d => ?_, ?_, ?_, ?_, ?_⟩
        · rw [hmd, jup_n _ _ a, hmc, jup_n _ _ a, hmz, jup_n _ _ d, hma, jup_n _ _ a]
          exact pfR.1 c a b
        · rw [hmd, jup_s, upd_n _ _ b, hmc, jup_s, upd_n _ _ a, hmz, jup_n _ _ (by decide), hma, jup_s, upd_n _ _ (by omega)]
          exact pfR.2 f (by omega)
        · rw [hmd, jup_s, upd_n _ _ (by decide), hmc, jup_s, upd_n _ _ (by decide), hmz, jup_n _ _ (by decide), hma, jup_s, upd_s]
        · rw [hmd, jup_s, upd_n _ _ (by decide), hmc, jup_s, upd_s]
        · rw [hmd, jup_s, upd_s]
        · rw [hmd, jup_n _ _ (by decide), hmc, jup_n _ _ (by decide), hmz, jup_s, hma, jup_n _ _ (by decide), pfR.1 102 (by decide) (by decide)])
    · intro k hk ih
      show jE _ _ 32 [some (.ref 98), some (.int 1), some (.int (nI k))] [] (jup ma 102 (va_cpy rdR (ma 102) 0 0 k))
      obtain ⟨mb, hmb⟩ : ∃ y : jM, y = jup ma 102 (va_cpy rdR (ma 102) 0 0 k) := ⟨_, rfl⟩
      refine e_start rfl hmb.symm ?_
      have g105 : ma 105 = rdR := by rw [hma, jup_n _ _ (by decide)]; exact hrdR
      refine e_iload_n dX4_kitchen_32 rfl ?_
      refine e_bipush (v := 51) dX4_kitchen_33 rfl ?_
      refine e_icmp_ge 56 dX4_kitchen_35 (by decide) (fun h => absurd h (j_more (N := 51) rfl rfl (by omega) (by omega))) (fun c35 => ?_)
      refine e_aload_n dX4_kitchen_38 rfl ?_
      refine e_getR (o := 4) (b := 102) dX4_kitchen_39 lkX4_19 rfl rfl (by decide) rfl ?_
      refine e_iload_n dX4_kitchen_42 rfl ?_
      refine e_aload_n dX4_kitchen_43 rfl ?_
      refine e_getR (o := 7) (b := 105) dX4_kitchen_44 lkX4_28 rfl rfl (by decide) rfl ?_
      refine e_iload_n dX4_kitchen_47 rfl ?_
      refine e_iald dX4_kitchen_48 rfl k rfl (by omega) (by decide) ?_
      refine e_iast dX4_kitchen_49 rfl k rfl (by omega) (by decide) (fun m7 hm7 => ?_)
      refine e_iinc (v := nI (k + 1)) (L' := [some (.ref 98), some (.int 1), some (.int (nI (k + 1)))]) dX4_kitchen_50 rfl (j_inc rfl) (by decide) (jnl_at (i := 1) rfl) rfl ?_
      refine e_goto 32 dX4_kitchen_53 (by decide) ?_
      have g105 : ma 105 = rdR := by rw [hma, jup_n _ _ (by decide)]; exact hrdR
      refine e_start rfl ?_ ih
      rw [hm7, hmb, jup_s, jup_jup]
      exact congrArg (jup ma 102) (cpy_s0' (by rw [jup_n _ _ (by decide), g105, Nat.zero_add]))
