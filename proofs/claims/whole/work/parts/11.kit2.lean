set_option maxHeartbeats 2000000 in
set_option maxRecDepth 20000 in
theorem s_oneBar (m : jM) (V : Nat) (hV : V ≤ 3) (h1 : m 102 1 = nI V) (P : Nat) (hP : P ≤ 5) (h2 : m 102 2 = nI P) : vX mX4_oneBar [.ref 98] m (fun m1 => jup m 102 (oneB (m 102) (m 106) V P) = m1) := by
  refine jX_of (L := [some (.ref 98), none]) 1 rfl rfl (by decide +kernel) rfl ?_
  refine e_iconst (v := 0) dX4_oneBar_0 rfl ?_
  refine e_istore_n (L' := [some (.ref 98), some (.int 0)]) dX4_oneBar_1 (Nat.le_of_ble_eq_true rfl) (Nat.le_of_ble_eq_true rfl) (jnl_at (i := 0) rfl) rfl ?_
  refine e_loop 2 P (fun k => [some (.ref 98), some (.int (nI k))]) (fun k => jup m 102 (pansB (m 102) (m 106) V k)) 0 (Nat.zero_le _) rfl (jup_id m 102) ?_ ?_
  · show jE _ _ 2 [some (.ref 98), some (.int (nI P))] [] (jup m 102 (pansB (m 102) (m 106) V P))
    obtain ⟨mm1, hmm1⟩ : ∃ y : jM, y = jup m 102 (pansB (m 102) (m 106) V P) := ⟨_, rfl⟩
    refine e_start rfl hmm1.symm ?_
    refine e_iload_n dX4_oneBar_2 rfl ?_
    refine e_aload_n dX4_oneBar_3 rfl ?_
    refine e_getR (o := 4) (b := 102) dX4_oneBar_4 lkX4_19 rfl rfl (by decide) rfl ?_
    refine e_iconst (v := 2) dX4_oneBar_7 rfl ?_
    refine e_iald dX4_oneBar_8 rfl 2 rfl (by decide) (by decide) ?_
    rw [show mm1 102 2 = nI P from by rw [hmm1, jup_s]; exact (pansB_lo (by omega) _).trans h2]
    refine e_icmp_ge 50 dX4_oneBar_9 (by decide) (fun c9 => ?_) (fun h => absurd (j_done rfl rfl) h)
    refine e_iconst (v := 0) dX4_oneBar_50 rfl ?_
    refine e_istore_n (L' := [some (.ref 98), some (.int 0)]) dX4_oneBar_51 (Nat.le_of_ble_eq_true rfl) (Nat.le_of_ble_eq_true rfl) (jnl_at (i := 0) rfl) rfl ?_
    refine e_loop 52 V (fun k => [some (.ref 98), some (.int (nI k))]) (fun k => jup m 102 (runsB (pansB (m 102) (m 106) V P) (m 106) k)) 0 (Nat.zero_le _) rfl (hmm1.symm) ?_ ?_
    · show jE _ _ 52 [some (.ref 98), some (.int (nI V))] [] (jup m 102 (runsB (pansB (m 102) (m 106) V P) (m 106) V))
      obtain ⟨me, hme⟩ : ∃ y : jM, y = jup m 102 (runsB (pansB (m 102) (m 106) V P) (m 106) V) := ⟨_, rfl⟩
      refine e_start rfl hme.symm ?_
      refine e_iload_n dX4_oneBar_52 rfl ?_
      refine e_aload_n dX4_oneBar_53 rfl ?_
      refine e_getR (o := 4) (b := 102) dX4_oneBar_54 lkX4_19 rfl rfl (by decide) rfl ?_
      refine e_iconst (v := 1) dX4_oneBar_57 rfl ?_
      refine e_iald dX4_oneBar_58 rfl 1 rfl (by decide) (by decide) ?_
      rw [show me 102 1 = nI V from by rw [hme, jup_s, runsB_lo (by omega) _ (by omega)]; exact (pansB_lo (by omega) _).trans h1]
      refine e_icmp_ge 103 dX4_oneBar_59 (by decide) (fun c59 => ?_) (fun h => absurd (j_done rfl rfl) h)
      refine e_aload_n dX4_oneBar_103 rfl ?_
      refine e_getR (o := 4) (b := 102) dX4_oneBar_104 lkX4_19 rfl rfl (by decide) rfl ?_
      refine e_iconst (v := 3) dX4_oneBar_107 rfl ?_
      refine e_dup2 dX4_oneBar_108 rfl rfl ?_
      refine e_iald dX4_oneBar_109 rfl 3 rfl (by decide) (by decide) ?_
      refine e_iconst (v := 1) dX4_oneBar_110 rfl ?_
      refine e_iadd dX4_oneBar_111 ?_
      refine e_iast dX4_oneBar_112 rfl 3 rfl (by decide) (by decide) (fun n3 hn3 => ?_)
      exact e_vret dX4_oneBar_113 rfl (by rw [hn3, hme, jup_s, jup_jup]; rfl)
    · intro k hk ih
      show jE _ _ 52 [some (.ref 98), some (.int (nI k))] [] (jup m 102 (runsB (pansB (m 102) (m 106) V P) (m 106) k))
      obtain ⟨mm3, hmm3⟩ : ∃ y : jM, y = jup m 102 (runsB (pansB (m 102) (m 106) V P) (m 106) k) := ⟨_, rfl⟩
      refine e_start rfl hmm3.symm ?_
      refine e_iload_n dX4_oneBar_52 rfl ?_
      refine e_aload_n dX4_oneBar_53 rfl ?_
      refine e_getR (o := 4) (b := 102) dX4_oneBar_54 lkX4_19 rfl rfl (by decide) rfl ?_
      refine e_iconst (v := 1) dX4_oneBar_57 rfl ?_
      refine e_iald dX4_oneBar_58 rfl 1 rfl (by decide) (by decide) ?_
      rw [show mm3 102 1 = nI V from by rw [hmm3, jup_s, runsB_lo (by omega) _ (by omega)]; exact (pansB_lo (by omega) _).trans h1]
      refine e_icmp_ge 103 dX4_oneBar_59 (by decide) (fun h => absurd h (j_more (N := V) rfl rfl (by omega) (by omega))) (fun c59 => ?_)
      refine e_aload_n dX4_oneBar_62 rfl ?_
      refine e_getR (o := 4) (b := 102) dX4_oneBar_63 lkX4_19 rfl rfl (by decide) rfl ?_
      refine e_bipush (v := 13) dX4_oneBar_66 rfl ?_
      refine e_iload_n dX4_oneBar_68 rfl ?_
      refine e_iadd dX4_oneBar_69 ?_
      refine e_aload_n dX4_oneBar_70 rfl ?_
      refine e_getR (o := 8) (b := 106) dX4_oneBar_71 lkX4_31 rfl rfl (by decide) rfl ?_
      refine e_iload_n dX4_oneBar_74 rfl ?_
      refine e_iald dX4_oneBar_75 rfl k rfl (by omega) (by decide) ?_
      refine e_bipush (v := 7) dX4_oneBar_76 rfl ?_
      refine e_icmp_ge 95 dX4_oneBar_78 (by decide) (fun c78 => ?_) (fun c78 => ?_)
      · refine e_iconst (v := 0) dX4_oneBar_95 rfl ?_
        refine e_iast dX4_oneBar_96 rfl (13 + k) (j_add rfl rfl) (by omega) (by decide) (fun n2 hn2 => ?_)
        refine e_iinc (v := nI (k + 1)) (L' := [some (.ref 98), some (.int (nI (k + 1)))]) dX4_oneBar_97 rfl (j_inc rfl) (by decide) (jnl_at (i := 0) rfl) rfl ?_
        refine e_goto 52 dX4_oneBar_100 (by decide) ?_
        refine e_start rfl ?_ ih
        rw [hmm3, jup_n _ _ (by decide)] at c78
        rw [hn2, hmm3, jup_s, jup_jup]
        refine congrArg (jup m 102) ?_
        show _ = upd _ _ (if m 106 k < 7 then _ else _)
        first | rw [if_pos (Int32.not_le.mp c78)] | rw [if_neg (Int32.not_lt.mpr c78)]
      · refine e_aload_n dX4_oneBar_81 rfl ?_
        refine e_getR (o := 4) (b := 102) dX4_oneBar_82 lkX4_19 rfl rfl (by decide) rfl ?_
        refine e_bipush (v := 13) dX4_oneBar_85 rfl ?_
        refine e_iload_n dX4_oneBar_87 rfl ?_
        refine e_iadd dX4_oneBar_88 ?_
        refine e_iald dX4_oneBar_89 rfl (13 + k) (j_add rfl rfl) (by omega) (by decide) ?_
        refine e_iconst (v := 1) dX4_oneBar_90 rfl ?_
        refine e_iadd dX4_oneBar_91 ?_
        refine e_goto 96 dX4_oneBar_92 (by decide) ?_
        refine e_iast dX4_oneBar_96 rfl (13 + k) (j_add rfl rfl) (by omega) (by decide) (fun n2 hn2 => ?_)
        refine e_iinc (v := nI (k + 1)) (L' := [some (.ref 98), some (.int (nI (k + 1)))]) dX4_oneBar_97 rfl (j_inc rfl) (by decide) (jnl_at (i := 0) rfl) rfl ?_
        refine e_goto 52 dX4_oneBar_100 (by decide) ?_
        refine e_start rfl ?_ ih
        rw [hmm3, jup_n _ _ (by decide)] at c78
        rw [hn2, hmm3, jup_s, jup_jup]
        refine congrArg (jup m 102) ?_
        show _ = upd _ _ (if m 106 k < 7 then _ else _)
        first | rw [if_pos (Int32.not_le.mp c78)] | rw [if_neg (Int32.not_lt.mpr c78)]
  · intro k hk ih
    show jE _ _ 2 [some (.ref 98), some (.int (nI k))] [] (jup m 102 (pansB (m 102) (m 106) V k))
    obtain ⟨mm6, hmm6⟩ : ∃ y : jM, y = jup m 102 (pansB (m 102) (m 106) V k) := ⟨_, rfl⟩
    refine e_start rfl hmm6.symm ?_
    refine e_iload_n dX4_oneBar_2 rfl ?_
    refine e_aload_n dX4_oneBar_3 rfl ?_
    refine e_getR (o := 4) (b := 102) dX4_oneBar_4 lkX4_19 rfl rfl (by decide) rfl ?_
    refine e_iconst (v := 2) dX4_oneBar_7 rfl ?_
    refine e_iald dX4_oneBar_8 rfl 2 rfl (by decide) (by decide) ?_
    rw [show mm6 102 2 = nI P from by rw [hmm6, jup_s]; exact (pansB_lo (by omega) _).trans h2]
    refine e_icmp_ge 50 dX4_oneBar_9 (by decide) (fun h => absurd h (j_more (N := P) rfl rfl (by omega) (by omega))) (fun c9 => ?_)
    refine e_aload_n dX4_oneBar_12 rfl ?_
    refine e_getR (o := 4) (b := 102) dX4_oneBar_13 lkX4_19 rfl rfl (by decide) rfl ?_
    refine e_bipush (v := 41) dX4_oneBar_16 rfl ?_
    refine e_iload_n dX4_oneBar_18 rfl ?_
    refine e_iadd dX4_oneBar_19 ?_
    refine e_iald dX4_oneBar_20 rfl (41 + k) (j_add rfl rfl) (by omega) (by decide) ?_
    refine e_iconst (v := 1) dX4_oneBar_21 rfl ?_
    refine e_icmp_ne 39 dX4_oneBar_22 (by decide) (fun c22 => ?_) (fun c22 => ?_)
    · refine e_aload_n dX4_oneBar_39 rfl ?_
      refine e_iload_n dX4_oneBar_40 rfl ?_
      refine e_callVv (n := 1) mX4_panHears [.int (nI k)] dX4_oneBar_41 ckX4_153 rfl (by decide +kernel) rfl rfl rfl rfl (by decide) ⟨Nat.zero_le _, Nat.zero_le _⟩ (s_panHears mm6 k (by omega) V hV (by rw [hmm6, jup_s]; exact (pansB_lo (by omega) _).trans h1)) (fun m7 hm7 => ?_)
      refine e_iinc (v := nI (k + 1)) (L' := [some (.ref 98), some (.int (nI (k + 1)))]) dX4_oneBar_44 rfl (j_inc rfl) (by decide) (jnl_at (i := 0) rfl) rfl ?_
      refine e_goto 2 dX4_oneBar_47 (by decide) ?_
      refine e_start rfl ?_ ih
      rw [hmm6, jup_s] at c22
      rw [← hm7, hmm6, jup_s, jup_jup, jup_n _ _ (by decide)]
      exact congrArg (jup m 102) (if_neg c22).symm
    · refine e_aload_n dX4_oneBar_25 rfl ?_
      refine e_getR (o := 4) (b := 102) dX4_oneBar_26 lkX4_19 rfl rfl (by decide) rfl ?_
      refine e_bipush (v := 46) dX4_oneBar_29 rfl ?_
      refine e_iload_n dX4_oneBar_31 rfl ?_
      refine e_iadd dX4_oneBar_32 ?_
      refine e_ldc dX4_oneBar_33 kkX4_127 ?_
      refine e_iast dX4_oneBar_35 rfl (46 + k) (j_add rfl rfl) (by omega) (by decide) (fun n1 hn1 => ?_)
      refine e_goto 44 dX4_oneBar_36 (by decide) ?_
      refine e_iinc (v := nI (k + 1)) (L' := [some (.ref 98), some (.int (nI (k + 1)))]) dX4_oneBar_44 rfl (j_inc rfl) (by decide) (jnl_at (i := 0) rfl) rfl ?_
      refine e_goto 2 dX4_oneBar_47 (by decide) ?_
      refine e_start rfl ?_ ih
      rw [hmm6, jup_s] at c22
      rw [hn1, hmm6, jup_s, jup_jup]
      exact congrArg (jup m 102) (if_pos c22).symm

set_option maxHeartbeats 2000000 in
set_option maxRecDepth 20000 in
theorem s_note51 (m : jM) (n : Nat) (hn : n < 24) (hc : m 98 18 = nI n) : jE (jmd mX4_note (vP (fun m1 => jst (jup m 107 (va_cpy (m 102) (m 107) 0 (51 * n) 51)) 98 18 (nI (n + 1)) = m1))) mX4_note 51 [some (.ref 98), some (.int 0)] [] m := by
  refine e_loop 51 51 (fun k => [some (.ref 98), some (.int (nI k))]) (fun k => jup m 107 (va_cpy (m 102) (m 107) 0 (51 * n) k)) 0 (Nat.zero_le _) rfl (by rw [cpy_0, jup_id]) ?_ ?_
  · show jE _ _ 51 [some (.ref 98), some (.int (nI 51))] [] (jup m 107 (va_cpy (m 102) (m 107) 0 (51 * n) 51))
    obtain ⟨me, hme⟩ : ∃ y : jM, y = jup m 107 (va_cpy (m 102) (m 107) 0 (51 * n) 51) := ⟨_, rfl⟩
    refine e_start rfl hme.symm ?_
    refine e_iload_n dX4_note_51 rfl ?_
    refine e_bipush (v := 51) dX4_note_52 rfl ?_
    refine e_icmp_ge 83 dX4_note_54 (by decide) (fun c54 => ?_) (fun h => absurd (j_done rfl rfl) h)
    refine e_aload_n dX4_note_83 rfl ?_
    refine e_dup dX4_note_84 rfl ?_
    refine e_getI dX4_note_85 lkX4_146 rfl rfl ?_
    rw [show me 98 18 = nI n from by rw [hme, jup_n _ _ (by decide)]; exact hc]
    refine e_iconst (v := 1) dX4_note_88 rfl ?_
    refine e_iadd dX4_note_89 ?_
    rw [show (nI n) + 1 = nI (n + 1) from nI_1 n]
    refine e_putI dX4_note_90 lkX4_146 rfl rfl fwX4_18 (Or.inl rfl) (fun mf hmf => ?_)
    exact e_vret dX4_note_93 rfl (by rw [hmf, hme])
  · intro k hk ih
    show jE _ _ 51 [some (.ref 98), some (.int (nI k))] [] (jup m 107 (va_cpy (m 102) (m 107) 0 (51 * n) k))
    obtain ⟨mb, hmb⟩ : ∃ y : jM, y = jup m 107 (va_cpy (m 102) (m 107) 0 (51 * n) k) := ⟨_, rfl⟩
    refine e_start rfl hmb.symm ?_
    refine e_iload_n dX4_note_51 rfl ?_
    refine e_bipush (v := 51) dX4_note_52 rfl ?_
    refine e_icmp_ge 83 dX4_note_54 (by decide) (fun h => absurd h (j_more (N := 51) rfl rfl (by omega) (by omega))) (fun c54 => ?_)
    refine e_aload_n dX4_note_57 rfl ?_
    refine e_getR (o := 9) (b := 107) dX4_note_58 lkX4_34 rfl rfl (by decide) rfl ?_
    refine e_bipush (v := 51) dX4_note_61 rfl ?_
    refine e_aload_n dX4_note_63 rfl ?_
    refine e_getI dX4_note_64 lkX4_146 rfl rfl ?_
    rw [show mb 98 18 = nI n from by rw [hmb, jup_n _ _ (by decide)]; exact hc]
    refine e_imul dX4_note_67 ?_
    refine e_iload_n dX4_note_68 rfl ?_
    refine e_iadd dX4_note_69 ?_
    refine e_aload_n dX4_note_70 rfl ?_
    refine e_getR (o := 4) (b := 102) dX4_note_71 lkX4_19 rfl rfl (by decide) rfl ?_
    refine e_iload_n dX4_note_74 rfl ?_
    refine e_iald dX4_note_75 rfl k rfl (by omega) (by decide) ?_
    refine e_iast dX4_note_76 rfl ((51 * n) + k) (j_add (j_mul rfl rfl) rfl) (by omega) (by decide) (fun m2 hm2 => ?_)
    refine e_iinc (v := nI (k + 1)) (L' := [some (.ref 98), some (.int (nI (k + 1)))]) dX4_note_77 rfl (j_inc rfl) (by decide) (jnl_at (i := 0) rfl) rfl ?_
    refine e_goto 51 dX4_note_80 (by decide) ?_
    refine e_start rfl ?_ ih
    rw [hm2, hmb, jup_s, jup_jup, jup_n _ _ (by decide)]
    exact congrArg (jup m 107) (cpy_sd (by rw [Nat.zero_add]))

set_option maxHeartbeats 2000000 in
set_option maxRecDepth 20000 in
theorem s_note (m : jM) (n : Nat) (hn : n ≤ 24) (hc : m 98 18 = nI n) : vX mX4_note [.ref 98] m (fun m1 => jst (jup m 107 (noteA (m 107) (m 102) n)) 98 18 (nI (noteN n)) = m1) := by
  refine jX_of (L := [some (.ref 98), none]) 1 rfl rfl (by decide +kernel) rfl ?_
  refine e_aload_n dX4_note_0 rfl ?_
  refine e_getI dX4_note_1 lkX4_146 rfl rfl ?_
  rw [show m 98 18 = nI n from hc]
  refine e_bipush (v := 24) dX4_note_4 rfl ?_
  refine e_icmp_ne 49 dX4_note_6 (by decide) (fun c6 => ?_) (fun c6 => ?_)
  · have hn2 : ¬ n = 24 := fun q => c6 (by rw [q]; rfl)
    refine e_iconst (v := 0) dX4_note_49 rfl ?_
    refine e_istore_n (L' := [some (.ref 98), some (.int 0)]) dX4_note_50 (Nat.le_of_ble_eq_true rfl) (Nat.le_of_ble_eq_true rfl) (jnl_at (i := 0) rfl) rfl ?_
    have h5 := s_note51 m n (by omega) hc
    unfold noteA noteN
    rw [if_neg hn2, if_neg hn2]
    exact h5
  · have hn2 : n = 24 := (j_eq (by omega) (by decide)).mp c6
    refine e_iconst (v := 0) dX4_note_9 rfl ?_
    refine e_istore_n (L' := [some (.ref 98), some (.int 0)]) dX4_note_10 (Nat.le_of_ble_eq_true rfl) (Nat.le_of_ble_eq_true rfl) (jnl_at (i := 0) rfl) rfl ?_
    refine e_loop 11 1173 (fun k => [some (.ref 98), some (.int (nI k))]) (fun k => jup m 107 (va_cpy (m 107) (m 107) 51 0 k)) 0 (Nat.zero_le _) rfl (by rw [cpy_0, jup_id]) ?_ ?_
    · show jE _ _ 11 [some (.ref 98), some (.int (nI 1173))] [] (jup m 107 (va_cpy (m 107) (m 107) 51 0 1173))
      obtain ⟨me, hme⟩ : ∃ y : jM, y = jup m 107 (va_cpy (m 107) (m 107) 51 0 1173) := ⟨_, rfl⟩
      refine e_start rfl hme.symm ?_
      refine e_iload_n dX4_note_11 rfl ?_
      refine e_sipush (v := 1173) dX4_note_12 rfl ?_
      refine e_icmp_ge 39 dX4_note_15 (by decide) (fun c15 => ?_) (fun h => absurd (j_done rfl rfl) h)
      refine e_aload_n dX4_note_39 rfl ?_
      refine e_dup dX4_note_40 rfl ?_
      refine e_getI dX4_note_41 lkX4_146 rfl rfl ?_
      rw [show me 98 18 = 24 from by rw [hme, jup_n _ _ (by decide), hc, hn2]; rfl]
      refine e_iconst (v := 1) dX4_note_44 rfl ?_
      refine e_isub dX4_note_45 ?_
      refine e_putI dX4_note_46 lkX4_146 rfl rfl fwX4_18 (Or.inl rfl) (fun mf hmf => ?_)
      refine e_iconst (v := 0) dX4_note_49 rfl ?_
      refine e_istore_n (L' := [some (.ref 98), some (.int 0)]) dX4_note_50 (Nat.le_of_ble_eq_true rfl) (Nat.le_of_ble_eq_true rfl) (jnl_at (i := 0) rfl) rfl ?_
      have h5 := s_note51 mf 23 (by decide) (by rw [hmf, jup_s, upd_s]; rfl)
      subst hn2
      unfold noteA noteN
      rw [if_pos rfl, if_pos rfl]
      have e1 : mf 107 = va_cpy (m 107) (m 107) 51 0 1173 := by rw [hmf, jup_n _ _ (by decide), hme, jup_s]
      have e2 : mf 102 = m 102 := by rw [hmf, jup_n _ _ (by decide), hme, jup_n _ _ (by decide)]
      rw [e1, e2] at h5
      have e3 : ∀ f, jst (jup mf 107 f) 98 18 (nI 24) = jst (jup m 107 f) 98 18 (nI 24) := by
        intro f
        rw [hmf]
        have := jst_jup me (c := 98) (d := 107) (by decide) 18 f (24 - 1) (nI 24)
        rw [this, hme, jup_jup]
      rw [e3] at h5
      exact h5
    · intro k hk ih
      show jE _ _ 11 [some (.ref 98), some (.int (nI k))] [] (jup m 107 (va_cpy (m 107) (m 107) 51 0 k))
      obtain ⟨mb, hmb⟩ : ∃ y : jM, y = jup m 107 (va_cpy (m 107) (m 107) 51 0 k) := ⟨_, rfl⟩
      refine e_start rfl hmb.symm ?_
      refine e_iload_n dX4_note_11 rfl ?_
      refine e_sipush (v := 1173) dX4_note_12 rfl ?_
      refine e_icmp_ge 39 dX4_note_15 (by decide) (fun h => absurd h (j_more (N := 1173) rfl rfl (by omega) (by omega))) (fun c15 => ?_)
      refine e_aload_n dX4_note_18 rfl ?_
      refine e_getR (o := 9) (b := 107) dX4_note_19 lkX4_34 rfl rfl (by decide) rfl ?_
      refine e_iload_n dX4_note_22 rfl ?_
      refine e_aload_n dX4_note_23 rfl ?_
      refine e_getR (o := 9) (b := 107) dX4_note_24 lkX4_34 rfl rfl (by decide) rfl ?_
      refine e_iload_n dX4_note_27 rfl ?_
      refine e_bipush (v := 51) dX4_note_28 rfl ?_
      refine e_iadd dX4_note_30 ?_
      refine e_iald dX4_note_31 rfl (k + 51) (j_add rfl rfl) (by omega) (by decide) ?_
      refine e_iast dX4_note_32 rfl k rfl (by omega) (by decide) (fun m2 hm2 => ?_)
      refine e_iinc (v := nI (k + 1)) (L' := [some (.ref 98), some (.int (nI (k + 1)))]) dX4_note_33 rfl (j_inc rfl) (by decide) (jnl_at (i := 0) rfl) rfl ?_
      refine e_goto 11 dX4_note_36 (by decide) ?_
      refine e_start rfl ?_ ih
      rw [hm2, hmb, jup_s, jup_jup]
      exact congrArg (jup m 107) (cpy_s0' (by unfold va_cpy; rw [if_neg (by omega)]; congr 1; omega))
