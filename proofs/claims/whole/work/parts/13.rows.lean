/-- n items from i on, of k -/
def reachP (k : Nat) (i n : Int32) : Prop := 0 ≤ n ∧ 0 ≤ i ∧ i.toInt + n.toInt ≤ (k : Int)
theorem i64_sub (a b : Int32) : (a.toInt64 - b.toInt64).toInt = a.toInt - b.toInt := by
  rw [Int64.toInt_sub, Int32.toInt_toInt64, Int32.toInt_toInt64]
  have h1 := Int32.toInt_lt a
  have h2 := Int32.le_toInt a
  have h3 := Int32.toInt_lt b
  have h4 := Int32.le_toInt b
  rw [Int.bmod_eq_of_le (by omega) (by omega)]
theorem s_inL (x n : Int32) (k : Nat) (hk : k < 2 ^ 31) (m : jM) : iX mX4_in [.long x.toInt64, .long 0, .long ((nI k).toInt64 - n.toInt64)] m (fun v m1 => m = m1 ∧ isB v (0 ≤ x ∧ x.toInt + n.toInt ≤ (k : Int))) := by
  have h1 := s_in x.toInt64 0 ((nI k).toInt64 - n.toInt64) m
  have e : ((0 : Int64) ≤ x.toInt64 ∧ x.toInt64 ≤ (nI k).toInt64 - n.toInt64) ↔ (0 ≤ x ∧ x.toInt + n.toInt ≤ (k : Int)) := by
    rw [Int64.le_iff_toInt_le, Int64.le_iff_toInt_le, i64_sub, Int32.toInt_toInt64, nI_toInt hk, Int32.le_iff_toInt_le]
    constructor
    · rintro ⟨a, b⟩; exact ⟨a, by omega⟩
    · rintro ⟨a, b⟩; exact ⟨a, by omega⟩
  rw [e] at h1
  exact h1
theorem s_inP (x : Int32) (k : Nat) (hk : k < 2 ^ 31) (m : jM) : iX mX4_in [.long x.toInt64, .long (0 : Int32).toInt64, .long (nI k - 1).toInt64] m (fun v m1 => m = m1 ∧ isB v (inN x k)) := by
  have h1 := s_in32 x 0 (nI k - 1) m
  rw [inN_pred hk] at h1
  exact h1
set_option maxHeartbeats 2000000 in
set_option maxRecDepth 20000 in
theorem s_Drow_b (m : jM) (x l n : Int32) (hb : ¬ (inN x 8 ∧ inN l 3 ∧ n ≤ 40)) : iX mX4_row [.ref 98, .int x, .int l, .int n] m (fun v m1 => v = -1000001 ∧ m = m1) := by
  refine jX_of (L := [some (.ref 98), some (.int x), some (.int l), some (.int n), none]) 1 rfl rfl (by decide +kernel) rfl ?_
  refine e_iload_n dX4_row_0 rfl ?_
  refine e_callSi (n := 1) mX4_isRow [.int x] dX4_row_1 ckX4_64 rfl (by decide +kernel) rfl rfl (Nat.le_of_ble_eq_true rfl) ⟨Nat.zero_le _, Nat.zero_le _⟩ (s_rowN x m) (fun v1 m1 hm1 => ?_)
  rcases hm1 with ⟨rfl, ⟨rfl, q1⟩ | ⟨rfl, q1⟩⟩
  · refine e_if_eq 25 dX4_row_4 (by decide) (fun h => absurd h (by decide)) (fun c4 => ?_)
    refine e_iload_n dX4_row_7 rfl ?_
    refine e_i2l dX4_row_8 ?_
    refine e_lconst (v := 0) dX4_row_9 rfl ?_
    refine e_ldc2 dX4_row_10 kkX4_68 ?_
    refine e_callSi (n := 3) mX4_in [.long l.toInt64, .long 0, .long (2)] dX4_row_13 ckX4_60 rfl (by decide +kernel) rfl rfl (Nat.le_of_ble_eq_true rfl) ⟨Nat.zero_le _, Nat.zero_le _⟩ (s_inN l (2) 3 (by decide) (by decide) m) (fun v13 m2 hm2 => ?_)
    rcases hm2 with ⟨rfl, ⟨rfl, q2⟩ | ⟨rfl, q2⟩⟩
    · refine e_if_eq 25 dX4_row_16 (by decide) (fun h => absurd h (by decide)) (fun c16 => ?_)
      refine e_iload_n dX4_row_19 rfl ?_
      refine e_bipush (v := 40) dX4_row_20 rfl ?_
      refine e_icmp_le 28 dX4_row_22 (by decide) (fun h => False.elim (hb ⟨q1, q2, h⟩)) (fun c22 => ?_)
      refine e_ldc dX4_row_25 kkX4_70 ?_
      exact e_iret dX4_row_27 rfl (⟨rfl, rfl⟩)
    · refine e_if_eq 25 dX4_row_16 (by decide) (fun c16 => ?_) (fun h => absurd h (by decide))
      refine e_ldc dX4_row_25 kkX4_70 ?_
      exact e_iret dX4_row_27 rfl (⟨rfl, rfl⟩)
  · refine e_if_eq 25 dX4_row_4 (by decide) (fun c4 => ?_) (fun h => absurd h (by decide))
    refine e_ldc dX4_row_25 kkX4_70 ?_
    exact e_iret dX4_row_27 rfl (⟨rfl, rfl⟩)

set_option maxHeartbeats 2000000 in
set_option maxRecDepth 20000 in
theorem s_Drow_z (m : jM) (x l n : Int32) (h1 : inN x 8) (h2 : inN l 3) (h3 : n < 0) : iX mX4_row [.ref 98, .int x, .int l, .int n] m (fun v m1 => v = (-1000010) - 4 ∧ jst m 98 3 4 = m1) := by
  refine jX_of (L := [some (.ref 98), some (.int x), some (.int l), some (.int n), none]) 1 rfl rfl (by decide +kernel) rfl ?_
  refine e_iload_n dX4_row_0 rfl ?_
  refine e_callSi (n := 1) mX4_isRow [.int x] dX4_row_1 ckX4_64 rfl (by decide +kernel) rfl rfl (Nat.le_of_ble_eq_true rfl) ⟨Nat.zero_le _, Nat.zero_le _⟩ (s_rowN x m) (fun v1 m1 hm1 => ?_)
  rcases hm1 with ⟨rfl, ⟨rfl, q1⟩ | ⟨rfl, q1⟩⟩
  · refine e_if_eq 25 dX4_row_4 (by decide) (fun h => absurd h (by decide)) (fun c4 => ?_)
    refine e_iload_n dX4_row_7 rfl ?_
    refine e_i2l dX4_row_8 ?_
    refine e_lconst (v := 0) dX4_row_9 rfl ?_
    refine e_ldc2 dX4_row_10 kkX4_68 ?_
    refine e_callSi (n := 3) mX4_in [.long l.toInt64, .long 0, .long (2)] dX4_row_13 ckX4_60 rfl (by decide +kernel) rfl rfl (Nat.le_of_ble_eq_true rfl) ⟨Nat.zero_le _, Nat.zero_le _⟩ (s_inN l (2) 3 (by decide) (by decide) m) (fun v13 m2 hm2 => ?_)
    rcases hm2 with ⟨rfl, ⟨rfl, q2⟩ | ⟨rfl, q2⟩⟩
    · refine e_if_eq 25 dX4_row_16 (by decide) (fun h => absurd h (by decide)) (fun c16 => ?_)
      refine e_iload_n dX4_row_19 rfl ?_
      refine e_bipush (v := 40) dX4_row_20 rfl ?_
      refine e_icmp_le 28 dX4_row_22 (by decide) (fun c22 => ?_) (fun h => absurd (Int32.le_of_lt (Int32.lt_of_lt_of_le h3 (by decide))) h)
      refine e_iload_n dX4_row_28 rfl ?_
      refine e_if_ge 38 dX4_row_29 (by decide) (fun h => absurd h3 (Int32.not_lt.mpr h)) (fun c29 => ?_)
      refine e_aload_n dX4_row_32 rfl ?_
      refine e_iconst (v := 4) dX4_row_33 rfl ?_
      refine e_callVi (n := 1) mX4_find [.int 4] dX4_row_34 ckX4_71 rfl (by decide +kernel) rfl rfl rfl rfl (Nat.le_of_ble_eq_true rfl) ⟨Nat.zero_le _, Nat.zero_le _⟩ (s_find 4 m) (fun v34 mw hmw => ?_)
      obtain ⟨rfl, hw⟩ := hmw
      exact e_iret dX4_row_37 rfl (⟨rfl, hw⟩)
    · exact False.elim (q2 h2)
  · exact False.elim (q1 h1)

set_option maxHeartbeats 2000000 in
set_option maxRecDepth 20000 in
theorem s_Drow (m : jM) (r : Nat) (hr : r < 8) (l : Int32) (h2 : inN l 3) (k : Nat) (hk : k ≤ 40) : iX mX4_row [.ref 98, .int (nI r), .int l, .int (nI k)] m (fun v m1 => v = nI k ∧ jst (jup (jst (jst m 99 r l) 100 r (nI k)) 101 (va_cpy (fun _ => 0) (m 101) 0 (40 * r) 40)) 98 3 0 = m1) := by
  refine jX_of (L := [some (.ref 98), some (.int (nI r)), some (.int l), some (.int (nI k)), none]) 1 rfl rfl (by decide +kernel) rfl ?_
  refine e_iload_n dX4_row_0 rfl ?_
  refine e_callSi (n := 1) mX4_isRow [.int (nI r)] dX4_row_1 ckX4_64 rfl (by decide +kernel) rfl rfl (Nat.le_of_ble_eq_true rfl) ⟨Nat.zero_le _, Nat.zero_le _⟩ (s_rowN (nI r) m) (fun v1 m1 hm1 => ?_)
  rcases hm1 with ⟨rfl, ⟨rfl, q1⟩ | ⟨rfl, q1⟩⟩
  · refine e_if_eq 25 dX4_row_4 (by decide) (fun h => absurd h (by decide)) (fun c4 => ?_)
    refine e_iload_n dX4_row_7 rfl ?_
    refine e_i2l dX4_row_8 ?_
    refine e_lconst (v := 0) dX4_row_9 rfl ?_
    refine e_ldc2 dX4_row_10 kkX4_68 ?_
    refine e_callSi (n := 3) mX4_in [.long l.toInt64, .long 0, .long (2)] dX4_row_13 ckX4_60 rfl (by decide +kernel) rfl rfl (Nat.le_of_ble_eq_true rfl) ⟨Nat.zero_le _, Nat.zero_le _⟩ (s_inN l (2) 3 (by decide) (by decide) m) (fun v13 m2 hm2 => ?_)
    rcases hm2 with ⟨rfl, ⟨rfl, q2⟩ | ⟨rfl, q2⟩⟩
    · refine e_if_eq 25 dX4_row_16 (by decide) (fun h => absurd h (by decide)) (fun c16 => ?_)
      refine e_iload_n dX4_row_19 rfl ?_
      refine e_bipush (v := 40) dX4_row_20 rfl ?_
      refine e_icmp_le 28 dX4_row_22 (by decide) (fun c22 => ?_) (fun h => absurd ((j_le (by omega) (by decide)).mpr hk) h)
      refine e_iload_n dX4_row_28 rfl ?_
      refine e_if_ge 38 dX4_row_29 (by decide) (fun c29 => ?_) (fun h => absurd (nI_pos' (by omega)) h)
      refine e_aload_n dX4_row_38 rfl ?_
      refine e_getR (o := 1) (b := 99) dX4_row_39 lkX4_7 rfl rfl (by decide) rfl ?_
      refine e_iload_n dX4_row_42 rfl ?_
      refine e_iload_n dX4_row_43 rfl ?_
      refine e_iast dX4_row_44 rfl r rfl (by omega) (by decide) (fun ma hma => ?_)
      refine e_aload_n dX4_row_45 rfl ?_
      refine e_getR (o := 2) (b := 100) dX4_row_46 lkX4_13 rfl rfl (by decide) rfl ?_
      refine e_iload_n dX4_row_49 rfl ?_
      refine e_iload_n dX4_row_50 rfl ?_
      refine e_iast dX4_row_51 rfl r rfl (by omega) (by decide) (fun mc hmc => ?_)
      refine e_iconst (v := 0) dX4_row_52 rfl ?_
      refine e_istore (L' := [some (.ref 98), some (.int (nI r)), some (.int l), some (.int (nI k)), some (.int 0)]) dX4_row_53 (Nat.le_of_ble_eq_true rfl) (Nat.le_of_ble_eq_true rfl) (jnl_at (i := 3) rfl) rfl ?_
      refine e_loop 55 40 (fun i => [some (.ref 98), some (.int (nI r)), some (.int l), some (.int (nI k)), some (.int (nI i))]) (fun i => jup mc 101 (va_cpy (fun _ => 0) (mc 101) 0 (40 * r) i)) 0 (Nat.zero_le _) rfl (by rw [cpy_0, jup_id]) ?_ ?_
      · show jE _ _ 55 [some (.ref 98), some (.int (nI r)), some (.int l), some (.int (nI k)), some (.int (nI 40))] [] (jup mc 101 (va_cpy (fun _ => 0) (mc 101) 0 (40 * r) 40))
        obtain ⟨me, hme⟩ : ∃ y : jM, y = jup mc 101 (va_cpy (fun _ => 0) (mc 101) 0 (40 * r) 40) := ⟨_, rfl⟩
        refine e_start rfl hme.symm ?_
        refine e_iload dX4_row_55 rfl ?_
        refine e_bipush (v := 40) dX4_row_57 rfl ?_
        refine e_icmp_ge 81 dX4_row_59 (by decide) (fun c59 => ?_) (fun h => absurd (j_done rfl rfl) h)
        refine e_aload_n dX4_row_81 rfl ?_
        refine e_iload_n dX4_row_82 rfl ?_
        refine e_callVi (n := 1) mX4_well [.int (nI k)] dX4_row_83 ckX4_75 rfl (by decide +kernel) rfl rfl rfl rfl (Nat.le_of_ble_eq_true rfl) ⟨Nat.zero_le _, Nat.zero_le _⟩ (s_well (nI k) me) (fun v83 mw hmw => ?_)
        obtain ⟨rfl, hw⟩ := hmw
        exact e_iret dX4_row_86 rfl (⟨rfl, by rw [← hw, hme, hmc, hma]; simp only [jup_n _ _ (show (101 : Nat) ≠ 100 by decide), jup_n _ _ (show (101 : Nat) ≠ 99 by decide)]⟩)
      · intro i hk ih
        show jE _ _ 55 [some (.ref 98), some (.int (nI r)), some (.int l), some (.int (nI k)), some (.int (nI i))] [] (jup mc 101 (va_cpy (fun _ => 0) (mc 101) 0 (40 * r) i))
        obtain ⟨mb, hmb⟩ : ∃ y : jM, y = jup mc 101 (va_cpy (fun _ => 0) (mc 101) 0 (40 * r) i) := ⟨_, rfl⟩
        refine e_start rfl hmb.symm ?_
        refine e_iload dX4_row_55 rfl ?_
        refine e_bipush (v := 40) dX4_row_57 rfl ?_
        refine e_icmp_ge 81 dX4_row_59 (by decide) (fun h => absurd h (j_more (N := 40) rfl rfl (by omega) (by omega))) (fun c59 => ?_)
        refine e_aload_n dX4_row_62 rfl ?_
        refine e_getR (o := 3) (b := 101) dX4_row_63 lkX4_16 rfl rfl (by decide) rfl ?_
        refine e_bipush (v := 40) dX4_row_66 rfl ?_
        refine e_iload_n dX4_row_68 rfl ?_
        refine e_imul dX4_row_69 ?_
        refine e_iload dX4_row_70 rfl ?_
        refine e_iadd dX4_row_72 ?_
        refine e_iconst (v := 0) dX4_row_73 rfl ?_
        refine e_iast dX4_row_74 rfl ((40 * r) + i) (j_add (j_mul rfl rfl) rfl) (by omega) (by decide) (fun m6 hm6 => ?_)
        refine e_iinc (v := nI (i + 1)) (L' := [some (.ref 98), some (.int (nI r)), some (.int l), some (.int (nI k)), some (.int (nI (i + 1)))]) dX4_row_75 rfl (j_inc rfl) (by decide) (jnl_at (i := 3) rfl) rfl ?_
        refine e_goto 55 dX4_row_78 (by decide) ?_
        refine e_start rfl ?_ ih
        rw [hm6, hmb, jup_s, jup_jup]
        exact congrArg (jup mc 101) (cpy_sd rfl)
    · exact False.elim (q2 h2)
  · exact False.elim (q1 (inN_nI (by decide) hr))

set_option maxHeartbeats 2000000 in
set_option maxRecDepth 20000 in
theorem s_Dset_b (m : jM) (x i v : Int32) (hb : ¬ inN x 8) : iX mX4_set [.ref 98, .int x, .int i, .int v] m (fun v m1 => v = -1000001 ∧ m = m1) := by
  refine jX_of (L := [some (.ref 98), some (.int x), some (.int i), some (.int v)]) 0 rfl rfl (by decide +kernel) rfl ?_
  refine e_iload_n dX4_set_0 rfl ?_
  refine e_callSi (n := 1) mX4_isRow [.int x] dX4_set_1 ckX4_64 rfl (by decide +kernel) rfl rfl (Nat.le_of_ble_eq_true rfl) ⟨Nat.zero_le _, Nat.zero_le _⟩ (s_rowN x m) (fun v1 m1 hm1 => ?_)
  rcases hm1 with ⟨rfl, ⟨rfl, q1⟩ | ⟨rfl, q1⟩⟩
  · exact False.elim (hb q1)
  · refine e_if_ne 10 dX4_set_4 (by decide) (fun h => absurd h (by decide)) (fun c4 => ?_)
    refine e_ldc dX4_set_7 kkX4_70 ?_
    exact e_iret dX4_set_9 rfl (⟨rfl, rfl⟩)

set_option maxHeartbeats 2000000 in
set_option maxRecDepth 20000 in
theorem s_Dset_n (m : jM) (r : Nat) (hr : r < 8) (i v : Int32) (hn : m 100 r = -1) : iX mX4_set [.ref 98, .int (nI r), .int i, .int v] m (fun v m1 => v = (-1000010) - 1 ∧ jst m 98 3 1 = m1) := by
  refine jX_of (L := [some (.ref 98), some (.int (nI r)), some (.int i), some (.int v)]) 0 rfl rfl (by decide +kernel) rfl ?_
  refine e_iload_n dX4_set_0 rfl ?_
  refine e_callSi (n := 1) mX4_isRow [.int (nI r)] dX4_set_1 ckX4_64 rfl (by decide +kernel) rfl rfl (Nat.le_of_ble_eq_true rfl) ⟨Nat.zero_le _, Nat.zero_le _⟩ (s_rowN (nI r) m) (fun v1 m1 hm1 => ?_)
  rcases hm1 with ⟨rfl, ⟨rfl, q1⟩ | ⟨rfl, q1⟩⟩
  · refine e_if_ne 10 dX4_set_4 (by decide) (fun c4 => ?_) (fun h => absurd h (by decide))
    refine e_aload_n dX4_set_10 rfl ?_
    refine e_getR (o := 2) (b := 100) dX4_set_11 lkX4_13 rfl rfl (by decide) rfl ?_
    refine e_iload_n dX4_set_14 rfl ?_
    refine e_iald dX4_set_15 rfl r rfl (by omega) (by decide) ?_
    rw [show m 100 r = (-1) from hn]
    refine e_if_ge 25 dX4_set_16 (by decide) (fun h => absurd h (by decide)) (fun c16 => ?_)
    refine e_aload_n dX4_set_19 rfl ?_
    refine e_iconst (v := 1) dX4_set_20 rfl ?_
    refine e_callVi (n := 1) mX4_find [.int 1] dX4_set_21 ckX4_71 rfl (by decide +kernel) rfl rfl rfl rfl (Nat.le_of_ble_eq_true rfl) ⟨Nat.zero_le _, Nat.zero_le _⟩ (s_find 1 m) (fun v21 mw hmw => ?_)
    obtain ⟨rfl, hw⟩ := hmw
    exact e_iret dX4_set_24 rfl (⟨rfl, hw⟩)
  · exact False.elim (q1 (inN_nI (by decide) hr))

set_option maxHeartbeats 2000000 in
set_option maxRecDepth 20000 in
theorem s_Dset_p (m : jM) (r : Nat) (hr : r < 8) (i v : Int32) (k : Nat) (hk : k ≤ 40) (hk2 : m 100 r = nI k) (hb : ¬ inN i k) : iX mX4_set [.ref 98, .int (nI r), .int i, .int v] m (fun v m1 => v = (-1000010) - 2 ∧ jst m 98 3 2 = m1) := by
  refine jX_of (L := [some (.ref 98), some (.int (nI r)), some (.int i), some (.int v)]) 0 rfl rfl (by decide +kernel) rfl ?_
  refine e_iload_n dX4_set_0 rfl ?_
  refine e_callSi (n := 1) mX4_isRow [.int (nI r)] dX4_set_1 ckX4_64 rfl (by decide +kernel) rfl rfl (Nat.le_of_ble_eq_true rfl) ⟨Nat.zero_le _, Nat.zero_le _⟩ (s_rowN (nI r) m) (fun v1 m1 hm1 => ?_)
  rcases hm1 with ⟨rfl, ⟨rfl, q1⟩ | ⟨rfl, q1⟩⟩
  · refine e_if_ne 10 dX4_set_4 (by decide) (fun c4 => ?_) (fun h => absurd h (by decide))
    refine e_aload_n dX4_set_10 rfl ?_
    refine e_getR (o := 2) (b := 100) dX4_set_11 lkX4_13 rfl rfl (by decide) rfl ?_
    refine e_iload_n dX4_set_14 rfl ?_
    refine e_iald dX4_set_15 rfl r rfl (by omega) (by decide) ?_
    rw [show m 100 r = nI k from hk2]
    refine e_if_ge 25 dX4_set_16 (by decide) (fun c16 => ?_) (fun h => absurd (nI_pos' (by omega)) h)
    refine e_iload_n dX4_set_25 rfl ?_
    refine e_i2l dX4_set_26 ?_
    refine e_lconst (v := 0) dX4_set_27 rfl ?_
    refine e_aload_n dX4_set_28 rfl ?_
    refine e_getR (o := 2) (b := 100) dX4_set_29 lkX4_13 rfl rfl (by decide) rfl ?_
    refine e_iload_n dX4_set_32 rfl ?_
    refine e_iald dX4_set_33 rfl r rfl (by omega) (by decide) ?_
    rw [show m 100 r = nI k from hk2]
    refine e_iconst (v := 1) dX4_set_34 rfl ?_
    refine e_isub dX4_set_35 ?_
    refine e_i2l dX4_set_36 ?_
    refine e_callSi (n := 3) mX4_in [.long i.toInt64, .long 0, .long (((nI k) - 1).toInt64)] dX4_set_37 ckX4_60 rfl (by decide +kernel) rfl rfl (Nat.le_of_ble_eq_true rfl) ⟨Nat.zero_le _, Nat.zero_le _⟩ (s_inP i k (by omega) m) (fun v37 m2 hm2 => ?_)
    rcases hm2 with ⟨rfl, ⟨rfl, q2⟩ | ⟨rfl, q2⟩⟩
    · exact False.elim (hb q2)
    · refine e_if_ne 49 dX4_set_40 (by decide) (fun h => absurd h (by decide)) (fun c40 => ?_)
      refine e_aload_n dX4_set_43 rfl ?_
      refine e_iconst (v := 2) dX4_set_44 rfl ?_
      refine e_callVi (n := 1) mX4_find [.int 2] dX4_set_45 ckX4_71 rfl (by decide +kernel) rfl rfl rfl rfl (Nat.le_of_ble_eq_true rfl) ⟨Nat.zero_le _, Nat.zero_le _⟩ (s_find 2 m) (fun v45 mw hmw => ?_)
      obtain ⟨rfl, hw⟩ := hmw
      exact e_iret dX4_set_48 rfl (⟨rfl, hw⟩)
  · exact False.elim (q1 (inN_nI (by decide) hr))

set_option maxHeartbeats 2000000 in
set_option maxRecDepth 20000 in
theorem s_Dset (m : jM) (r : Nat) (hr : r < 8) (i : Nat) (v : Int32) (k : Nat) (hk : k ≤ 40) (hk2 : m 100 r = nI k) (hi : i < k) : iX mX4_set [.ref 98, .int (nI r), .int (nI i), .int v] m (fun x m1 => x = laneF (m 99 r) v ∧ jst (jst m 101 (40 * r + i) (laneF (m 99 r) v)) 98 3 0 = m1) := by
  refine jX_of (L := [some (.ref 98), some (.int (nI r)), some (.int (nI i)), some (.int v)]) 0 rfl rfl (by decide +kernel) rfl ?_
  refine e_iload_n dX4_set_0 rfl ?_
  refine e_callSi (n := 1) mX4_isRow [.int (nI r)] dX4_set_1 ckX4_64 rfl (by decide +kernel) rfl rfl (Nat.le_of_ble_eq_true rfl) ⟨Nat.zero_le _, Nat.zero_le _⟩ (s_rowN (nI r) m) (fun v1 m1 hm1 => ?_)
  rcases hm1 with ⟨rfl, ⟨rfl, q1⟩ | ⟨rfl, q1⟩⟩
  · refine e_if_ne 10 dX4_set_4 (by decide) (fun c4 => ?_) (fun h => absurd h (by decide))
    refine e_aload_n dX4_set_10 rfl ?_
    refine e_getR (o := 2) (b := 100) dX4_set_11 lkX4_13 rfl rfl (by decide) rfl ?_
    refine e_iload_n dX4_set_14 rfl ?_
    refine e_iald dX4_set_15 rfl r rfl (by omega) (by decide) ?_
    rw [show m 100 r = nI k from hk2]
    refine e_if_ge 25 dX4_set_16 (by decide) (fun c16 => ?_) (fun h => absurd (nI_pos' (by omega)) h)
    refine e_iload_n dX4_set_25 rfl ?_
    refine e_i2l dX4_set_26 ?_
    refine e_lconst (v := 0) dX4_set_27 rfl ?_
    refine e_aload_n dX4_set_28 rfl ?_
    refine e_getR (o := 2) (b := 100) dX4_set_29 lkX4_13 rfl rfl (by decide) rfl ?_
    refine e_iload_n dX4_set_32 rfl ?_
    refine e_iald dX4_set_33 rfl r rfl (by omega) (by decide) ?_
    rw [show m 100 r = nI k from hk2]
    refine e_iconst (v := 1) dX4_set_34 rfl ?_
    refine e_isub dX4_set_35 ?_
    refine e_i2l dX4_set_36 ?_
    refine e_callSi (n := 3) mX4_in [.long ((nI i).toInt64), .long 0, .long (((nI k) - 1).toInt64)] dX4_set_37 ckX4_60 rfl (by decide +kernel) rfl rfl (Nat.le_of_ble_eq_true rfl) ⟨Nat.zero_le _, Nat.zero_le _⟩ (s_inP (nI i) k (by omega) m) (fun v37 m2 hm2 => ?_)
    rcases hm2 with ⟨rfl, ⟨rfl, q2⟩ | ⟨rfl, q2⟩⟩
    · refine e_if_ne 49 dX4_set_40 (by decide) (fun c40 => ?_) (fun h => absurd h (by decide))
      refine e_aload_n dX4_set_49 rfl ?_
      refine e_getR (o := 3) (b := 101) dX4_set_50 lkX4_16 rfl rfl (by decide) rfl ?_
      refine e_bipush (v := 40) dX4_set_53 rfl ?_
      refine e_iload_n dX4_set_55 rfl ?_
      refine e_imul dX4_set_56 ?_
      refine e_iload_n dX4_set_57 rfl ?_
      refine e_iadd dX4_set_58 ?_
      refine e_aload_n dX4_set_59 rfl ?_
      refine e_getR (o := 1) (b := 99) dX4_set_60 lkX4_7 rfl rfl (by decide) rfl ?_
      refine e_iload_n dX4_set_63 rfl ?_
      refine e_iald dX4_set_64 rfl r rfl (by omega) (by decide) ?_
      refine e_iload_n dX4_set_65 rfl ?_
      refine e_callSi (n := 2) mX4_asLane [.int (m 99 r), .int v] dX4_set_66 ckX4_78 rfl (by decide +kernel) rfl rfl (Nat.le_of_ble_eq_true rfl) ⟨Nat.zero_le _, Nat.zero_le _⟩ (s_asLane (m 99 r) v m) (fun v66 m3 hm3 => ?_)
      obtain ⟨rfl, rfl⟩ := hm3
      refine e_iast dX4_set_69 rfl ((40 * r) + i) (j_add (j_mul rfl rfl) rfl) (by omega) (by decide) (fun ma hma => ?_)
      refine e_aload_n dX4_set_70 rfl ?_
      refine e_aload_n dX4_set_71 rfl ?_
      refine e_getR (o := 3) (b := 101) dX4_set_72 lkX4_16 rfl rfl (by decide) rfl ?_
      refine e_bipush (v := 40) dX4_set_75 rfl ?_
      refine e_iload_n dX4_set_77 rfl ?_
      refine e_imul dX4_set_78 ?_
      refine e_iload_n dX4_set_79 rfl ?_
      refine e_iadd dX4_set_80 ?_
      refine e_iald dX4_set_81 rfl ((40 * r) + i) (j_add (j_mul rfl rfl) rfl) (by omega) (by decide) ?_
      rw [show ma 101 ((40 * r) + i) = laneF (m 99 r) v from by rw [hma, jup_s, upd_s]]
      refine e_callVi (n := 1) mX4_well [.int (laneF (m 99 r) v)] dX4_set_82 ckX4_75 rfl (by decide +kernel) rfl rfl rfl rfl (Nat.le_of_ble_eq_true rfl) ⟨Nat.zero_le _, Nat.zero_le _⟩ (s_well (laneF (m 99 r) v) ma) (fun v82 mw hmw => ?_)
      obtain ⟨rfl, hw⟩ := hmw
      exact e_iret dX4_set_85 rfl (⟨rfl, by rw [← hw, hma]⟩)
    · exact False.elim (q2 (inN_nI (by omega) hi))
  · exact False.elim (q1 (inN_nI (by decide) hr))

set_option maxHeartbeats 2000000 in
set_option maxRecDepth 20000 in
theorem s_Dcopy_b (m : jM) (x i y j n : Int32) (hb : ¬ (inN x 8 ∧ inN y 8)) : iX mX4_copy [.ref 98, .int x, .int i, .int y, .int j, .int n] m (fun v m1 => v = -1000001 ∧ m = m1) := by
  refine jX_of (L := [some (.ref 98), some (.int x), some (.int i), some (.int y), some (.int j), some (.int n), none]) 1 rfl rfl (by decide +kernel) rfl ?_
  refine e_iload_n dX4_copy_0 rfl ?_
  refine e_callSi (n := 1) mX4_isRow [.int x] dX4_copy_1 ckX4_64 rfl (by decide +kernel) rfl rfl (Nat.le_of_ble_eq_true rfl) ⟨Nat.zero_le _, Nat.zero_le _⟩ (s_rowN x m) (fun v1 m1 hm1 => ?_)
  rcases hm1 with ⟨rfl, ⟨rfl, q1⟩ | ⟨rfl, q1⟩⟩
  · refine e_if_eq 14 dX4_copy_4 (by decide) (fun h => absurd h (by decide)) (fun c4 => ?_)
    refine e_iload_n dX4_copy_7 rfl ?_
    refine e_callSi (n := 1) mX4_isRow [.int y] dX4_copy_8 ckX4_64 rfl (by decide +kernel) rfl rfl (Nat.le_of_ble_eq_true rfl) ⟨Nat.zero_le _, Nat.zero_le _⟩ (s_rowN y m) (fun v8 m2 hm2 => ?_)
    rcases hm2 with ⟨rfl, ⟨rfl, q2⟩ | ⟨rfl, q2⟩⟩
    · exact False.elim (hb ⟨q1, q2⟩)
    · refine e_if_ne 17 dX4_copy_11 (by decide) (fun h => absurd h (by decide)) (fun c11 => ?_)
      refine e_ldc dX4_copy_14 kkX4_70 ?_
      exact e_iret dX4_copy_16 rfl (⟨rfl, rfl⟩)
  · refine e_if_eq 14 dX4_copy_4 (by decide) (fun c4 => ?_) (fun h => absurd h (by decide))
    refine e_ldc dX4_copy_14 kkX4_70 ?_
    exact e_iret dX4_copy_16 rfl (⟨rfl, rfl⟩)

set_option maxHeartbeats 2000000 in
set_option maxRecDepth 20000 in
theorem s_Dcopy_n (m : jM) (a b : Nat) (ha : a < 8) (hb : b < 8) (i j n : Int32) (hn : m 100 a < 0 ∨ m 100 b < 0) : iX mX4_copy [.ref 98, .int (nI a), .int i, .int (nI b), .int j, .int n] m (fun v m1 => v = (-1000010) - 1 ∧ jst m 98 3 1 = m1) := by
  refine jX_of (L := [some (.ref 98), some (.int (nI a)), some (.int i), some (.int (nI b)), some (.int j), some (.int n), none]) 1 rfl rfl (by decide +kernel) rfl ?_
  refine e_iload_n dX4_copy_0 rfl ?_
  refine e_callSi (n := 1) mX4_isRow [.int (nI a)] dX4_copy_1 ckX4_64 rfl (by decide +kernel) rfl rfl (Nat.le_of_ble_eq_true rfl) ⟨Nat.zero_le _, Nat.zero_le _⟩ (s_rowN (nI a) m) (fun v1 m1 hm1 => ?_)
  rcases hm1 with ⟨rfl, ⟨rfl, q1⟩ | ⟨rfl, q1⟩⟩
  · refine e_if_eq 14 dX4_copy_4 (by decide) (fun h => absurd h (by decide)) (fun c4 => ?_)
    refine e_iload_n dX4_copy_7 rfl ?_
    refine e_callSi (n := 1) mX4_isRow [.int (nI b)] dX4_copy_8 ckX4_64 rfl (by decide +kernel) rfl rfl (Nat.le_of_ble_eq_true rfl) ⟨Nat.zero_le _, Nat.zero_le _⟩ (s_rowN (nI b) m) (fun v8 m2 hm2 => ?_)
    rcases hm2 with ⟨rfl, ⟨rfl, q2⟩ | ⟨rfl, q2⟩⟩
    · refine e_if_ne 17 dX4_copy_11 (by decide) (fun c11 => ?_) (fun h => absurd h (by decide))
      refine e_aload_n dX4_copy_17 rfl ?_
      refine e_getR (o := 2) (b := 100) dX4_copy_18 lkX4_13 rfl rfl (by decide) rfl ?_
      refine e_iload_n dX4_copy_21 rfl ?_
      refine e_iald dX4_copy_22 rfl a rfl (by omega) (by decide) ?_
      refine e_if_lt 35 dX4_copy_23 (by decide) (fun c23 => ?_) (fun c23 => ?_)
      · refine e_aload_n dX4_copy_35 rfl ?_
        refine e_iconst (v := 1) dX4_copy_36 rfl ?_
        refine e_callVi (n := 1) mX4_find [.int 1] dX4_copy_37 ckX4_71 rfl (by decide +kernel) rfl rfl rfl rfl (Nat.le_of_ble_eq_true rfl) ⟨Nat.zero_le _, Nat.zero_le _⟩ (s_find 1 m) (fun v37 mw hmw => ?_)
        obtain ⟨rfl, hw⟩ := hmw
        exact e_iret dX4_copy_40 rfl (⟨rfl, hw⟩)
      · refine e_aload_n dX4_copy_26 rfl ?_
        refine e_getR (o := 2) (b := 100) dX4_copy_27 lkX4_13 rfl rfl (by decide) rfl ?_
        refine e_iload_n dX4_copy_30 rfl ?_
        refine e_iald dX4_copy_31 rfl b rfl (by omega) (by decide) ?_
        refine e_if_ge 41 dX4_copy_32 (by decide) (fun h => by rcases hn with z | z; exact absurd z c23; exact absurd z (Int32.not_lt.mpr h)) (fun c32 => ?_)
        refine e_aload_n dX4_copy_35 rfl ?_
        refine e_iconst (v := 1) dX4_copy_36 rfl ?_
        refine e_callVi (n := 1) mX4_find [.int 1] dX4_copy_37 ckX4_71 rfl (by decide +kernel) rfl rfl rfl rfl (Nat.le_of_ble_eq_true rfl) ⟨Nat.zero_le _, Nat.zero_le _⟩ (s_find 1 m) (fun v37 mw hmw => ?_)
        obtain ⟨rfl, hw⟩ := hmw
        exact e_iret dX4_copy_40 rfl (⟨rfl, hw⟩)
    · exact False.elim (q2 (inN_nI (by decide) hb))
  · exact False.elim (q1 (inN_nI (by decide) ha))

set_option maxHeartbeats 2000000 in
set_option maxRecDepth 20000 in
theorem s_Dcopy_s (m : jM) (a b : Nat) (ha : a < 8) (hb : b < 8) (i j n : Int32) (k k2 : Nat) (hk : k ≤ 40) (hk2 : k2 ≤ 40) (ea : m 100 a = nI k) (eb : m 100 b = nI k2) (hl : ¬ m 99 a = m 99 b) : iX mX4_copy [.ref 98, .int (nI a), .int i, .int (nI b), .int j, .int n] m (fun v m1 => v = (-1000010) - 5 ∧ jst m 98 3 5 = m1) := by
  refine jX_of (L := [some (.ref 98), some (.int (nI a)), some (.int i), some (.int (nI b)), some (.int j), some (.int n), none]) 1 rfl rfl (by decide +kernel) rfl ?_
  refine e_iload_n dX4_copy_0 rfl ?_
  refine e_callSi (n := 1) mX4_isRow [.int (nI a)] dX4_copy_1 ckX4_64 rfl (by decide +kernel) rfl rfl (Nat.le_of_ble_eq_true rfl) ⟨Nat.zero_le _, Nat.zero_le _⟩ (s_rowN (nI a) m) (fun v1 m1 hm1 => ?_)
  rcases hm1 with ⟨rfl, ⟨rfl, q1⟩ | ⟨rfl, q1⟩⟩
  · refine e_if_eq 14 dX4_copy_4 (by decide) (fun h => absurd h (by decide)) (fun c4 => ?_)
    refine e_iload_n dX4_copy_7 rfl ?_
    refine e_callSi (n := 1) mX4_isRow [.int (nI b)] dX4_copy_8 ckX4_64 rfl (by decide +kernel) rfl rfl (Nat.le_of_ble_eq_true rfl) ⟨Nat.zero_le _, Nat.zero_le _⟩ (s_rowN (nI b) m) (fun v8 m2 hm2 => ?_)
    rcases hm2 with ⟨rfl, ⟨rfl, q2⟩ | ⟨rfl, q2⟩⟩
    · refine e_if_ne 17 dX4_copy_11 (by decide) (fun c11 => ?_) (fun h => absurd h (by decide))
      refine e_aload_n dX4_copy_17 rfl ?_
      refine e_getR (o := 2) (b := 100) dX4_copy_18 lkX4_13 rfl rfl (by decide) rfl ?_
      refine e_iload_n dX4_copy_21 rfl ?_
      refine e_iald dX4_copy_22 rfl a rfl (by omega) (by decide) ?_
      rw [show m 100 a = nI k from ea]
      refine e_if_lt 35 dX4_copy_23 (by decide) (fun h => absurd h (nI_pos (by omega))) (fun c23 => ?_)
      refine e_aload_n dX4_copy_26 rfl ?_
      refine e_getR (o := 2) (b := 100) dX4_copy_27 lkX4_13 rfl rfl (by decide) rfl ?_
      refine e_iload_n dX4_copy_30 rfl ?_
      refine e_iald dX4_copy_31 rfl b rfl (by omega) (by decide) ?_
      rw [show m 100 b = nI k2 from eb]
      refine e_if_ge 41 dX4_copy_32 (by decide) (fun c32 => ?_) (fun h => absurd (nI_pos' (by omega)) h)
      refine e_aload_n dX4_copy_41 rfl ?_
      refine e_getR (o := 1) (b := 99) dX4_copy_42 lkX4_7 rfl rfl (by decide) rfl ?_
      refine e_iload_n dX4_copy_45 rfl ?_
      refine e_iald dX4_copy_46 rfl a rfl (by omega) (by decide) ?_
      refine e_aload_n dX4_copy_47 rfl ?_
      refine e_getR (o := 1) (b := 99) dX4_copy_48 lkX4_7 rfl rfl (by decide) rfl ?_
      refine e_iload_n dX4_copy_51 rfl ?_
      refine e_iald dX4_copy_52 rfl b rfl (by omega) (by decide) ?_
      refine e_icmp_eq 62 dX4_copy_53 (by decide) (fun h => absurd h hl) (fun c53 => ?_)
      refine e_aload_n dX4_copy_56 rfl ?_
      refine e_iconst (v := 5) dX4_copy_57 rfl ?_
      refine e_callVi (n := 1) mX4_find [.int 5] dX4_copy_58 ckX4_71 rfl (by decide +kernel) rfl rfl rfl rfl (Nat.le_of_ble_eq_true rfl) ⟨Nat.zero_le _, Nat.zero_le _⟩ (s_find 5 m) (fun v58 mw hmw => ?_)
      obtain ⟨rfl, hw⟩ := hmw
      exact e_iret dX4_copy_61 rfl (⟨rfl, hw⟩)
    · exact False.elim (q2 (inN_nI (by decide) hb))
  · exact False.elim (q1 (inN_nI (by decide) ha))

set_option maxHeartbeats 2000000 in
set_option maxRecDepth 20000 in
theorem s_Dcopy_p (m : jM) (a b : Nat) (ha : a < 8) (hb : b < 8) (i j n : Int32) (k k2 : Nat) (hk : k ≤ 40) (hk2 : k2 ≤ 40) (ea : m 100 a = nI k) (eb : m 100 b = nI k2) (hl : m 99 a = m 99 b) (hp : ¬ (reachP k i n ∧ reachP k2 j n)) : iX mX4_copy [.ref 98, .int (nI a), .int i, .int (nI b), .int j, .int n] m (fun v m1 => v = (-1000010) - 2 ∧ jst m 98 3 2 = m1) := by
  refine jX_of (L := [some (.ref 98), some (.int (nI a)), some (.int i), some (.int (nI b)), some (.int j), some (.int n), none]) 1 rfl rfl (by decide +kernel) rfl ?_
  refine e_iload_n dX4_copy_0 rfl ?_
  refine e_callSi (n := 1) mX4_isRow [.int (nI a)] dX4_copy_1 ckX4_64 rfl (by decide +kernel) rfl rfl (Nat.le_of_ble_eq_true rfl) ⟨Nat.zero_le _, Nat.zero_le _⟩ (s_rowN (nI a) m) (fun v1 m1 hm1 => ?_)
  rcases hm1 with ⟨rfl, ⟨rfl, q1⟩ | ⟨rfl, q1⟩⟩
  · refine e_if_eq 14 dX4_copy_4 (by decide) (fun h => absurd h (by decide)) (fun c4 => ?_)
    refine e_iload_n dX4_copy_7 rfl ?_
    refine e_callSi (n := 1) mX4_isRow [.int (nI b)] dX4_copy_8 ckX4_64 rfl (by decide +kernel) rfl rfl (Nat.le_of_ble_eq_true rfl) ⟨Nat.zero_le _, Nat.zero_le _⟩ (s_rowN (nI b) m) (fun v8 m2 hm2 => ?_)
    rcases hm2 with ⟨rfl, ⟨rfl, q2⟩ | ⟨rfl, q2⟩⟩
    · refine e_if_ne 17 dX4_copy_11 (by decide) (fun c11 => ?_) (fun h => absurd h (by decide))
      refine e_aload_n dX4_copy_17 rfl ?_
      refine e_getR (o := 2) (b := 100) dX4_copy_18 lkX4_13 rfl rfl (by decide) rfl ?_
      refine e_iload_n dX4_copy_21 rfl ?_
      refine e_iald dX4_copy_22 rfl a rfl (by omega) (by decide) ?_
      rw [show m 100 a = nI k from ea]
      refine e_if_lt 35 dX4_copy_23 (by decide) (fun h => absurd h (nI_pos (by omega))) (fun c23 => ?_)
      refine e_aload_n dX4_copy_26 rfl ?_
      refine e_getR (o := 2) (b := 100) dX4_copy_27 lkX4_13 rfl rfl (by decide) rfl ?_
      refine e_iload_n dX4_copy_30 rfl ?_
      refine e_iald dX4_copy_31 rfl b rfl (by omega) (by decide) ?_
      rw [show m 100 b = nI k2 from eb]
      refine e_if_ge 41 dX4_copy_32 (by decide) (fun c32 => ?_) (fun h => absurd (nI_pos' (by omega)) h)
      refine e_aload_n dX4_copy_41 rfl ?_
      refine e_getR (o := 1) (b := 99) dX4_copy_42 lkX4_7 rfl rfl (by decide) rfl ?_
      refine e_iload_n dX4_copy_45 rfl ?_
      refine e_iald dX4_copy_46 rfl a rfl (by omega) (by decide) ?_
      refine e_aload_n dX4_copy_47 rfl ?_
      refine e_getR (o := 1) (b := 99) dX4_copy_48 lkX4_7 rfl rfl (by decide) rfl ?_
      refine e_iload_n dX4_copy_51 rfl ?_
      refine e_iald dX4_copy_52 rfl b rfl (by omega) (by decide) ?_
      refine e_icmp_eq 62 dX4_copy_53 (by decide) (fun c53 => ?_) (fun h => absurd hl h)
      refine e_iload dX4_copy_62 rfl ?_
      refine e_if_lt 108 dX4_copy_64 (by decide) (fun c64 => ?_) (fun c64 => ?_)
      · refine e_aload_n dX4_copy_108 rfl ?_
        refine e_iconst (v := 2) dX4_copy_109 rfl ?_
        refine e_callVi (n := 1) mX4_find [.int 2] dX4_copy_110 ckX4_71 rfl (by decide +kernel) rfl rfl rfl rfl (Nat.le_of_ble_eq_true rfl) ⟨Nat.zero_le _, Nat.zero_le _⟩ (s_find 2 m) (fun v110 mw hmw => ?_)
        obtain ⟨rfl, hw⟩ := hmw
        exact e_iret dX4_copy_113 rfl (⟨rfl, hw⟩)
      · refine e_iload_n dX4_copy_67 rfl ?_
        refine e_i2l dX4_copy_68 ?_
        refine e_lconst (v := 0) dX4_copy_69 rfl ?_
        refine e_aload_n dX4_copy_70 rfl ?_
        refine e_getR (o := 2) (b := 100) dX4_copy_71 lkX4_13 rfl rfl (by decide) rfl ?_
        refine e_iload_n dX4_copy_74 rfl ?_
        refine e_iald dX4_copy_75 rfl a rfl (by omega) (by decide) ?_
        rw [show m 100 a = nI k from ea]
        refine e_i2l dX4_copy_76 ?_
        refine e_iload dX4_copy_77 rfl ?_
        refine e_i2l dX4_copy_79 ?_
        refine e_lsub dX4_copy_80 ?_
        refine e_callSi (n := 3) mX4_in [.long i.toInt64, .long 0, .long (((nI k).toInt64) - n.toInt64)] dX4_copy_81 ckX4_60 rfl (by decide +kernel) rfl rfl (Nat.le_of_ble_eq_true rfl) ⟨Nat.zero_le _, Nat.zero_le _⟩ (s_inL i n k (by omega) m) (fun v81 m4 hm4 => ?_)
        rcases hm4 with ⟨rfl, ⟨rfl, q3⟩ | ⟨rfl, q3⟩⟩
        · refine e_if_eq 108 dX4_copy_84 (by decide) (fun h => absurd h (by decide)) (fun c84 => ?_)
          refine e_iload dX4_copy_87 rfl ?_
          refine e_i2l dX4_copy_89 ?_
          refine e_lconst (v := 0) dX4_copy_90 rfl ?_
          refine e_aload_n dX4_copy_91 rfl ?_
          refine e_getR (o := 2) (b := 100) dX4_copy_92 lkX4_13 rfl rfl (by decide) rfl ?_
          refine e_iload_n dX4_copy_95 rfl ?_
          refine e_iald dX4_copy_96 rfl b rfl (by omega) (by decide) ?_
          rw [show m 100 b = nI k2 from eb]
          refine e_i2l dX4_copy_97 ?_
          refine e_iload dX4_copy_98 rfl ?_
          refine e_i2l dX4_copy_100 ?_
          refine e_lsub dX4_copy_101 ?_
          refine e_callSi (n := 3) mX4_in [.long j.toInt64, .long 0, .long (((nI k2).toInt64) - n.toInt64)] dX4_copy_102 ckX4_60 rfl (by decide +kernel) rfl rfl (Nat.le_of_ble_eq_true rfl) ⟨Nat.zero_le _, Nat.zero_le _⟩ (s_inL j n k2 (by omega) m) (fun v102 m5 hm5 => ?_)
          rcases hm5 with ⟨rfl, ⟨rfl, q4⟩ | ⟨rfl, q4⟩⟩
          · exact False.elim (hp ⟨⟨Int32.not_lt.mp c64, q3⟩, ⟨Int32.not_lt.mp c64, q4⟩⟩)
          · refine e_if_ne 114 dX4_copy_105 (by decide) (fun h => absurd h (by decide)) (fun c105 => ?_)
            refine e_aload_n dX4_copy_108 rfl ?_
            refine e_iconst (v := 2) dX4_copy_109 rfl ?_
            refine e_callVi (n := 1) mX4_find [.int 2] dX4_copy_110 ckX4_71 rfl (by decide +kernel) rfl rfl rfl rfl (Nat.le_of_ble_eq_true rfl) ⟨Nat.zero_le _, Nat.zero_le _⟩ (s_find 2 m) (fun v110 mw hmw => ?_)
            obtain ⟨rfl, hw⟩ := hmw
            exact e_iret dX4_copy_113 rfl (⟨rfl, hw⟩)
        · refine e_if_eq 108 dX4_copy_84 (by decide) (fun c84 => ?_) (fun h => absurd h (by decide))
          refine e_aload_n dX4_copy_108 rfl ?_
          refine e_iconst (v := 2) dX4_copy_109 rfl ?_
          refine e_callVi (n := 1) mX4_find [.int 2] dX4_copy_110 ckX4_71 rfl (by decide +kernel) rfl rfl rfl rfl (Nat.le_of_ble_eq_true rfl) ⟨Nat.zero_le _, Nat.zero_le _⟩ (s_find 2 m) (fun v110 mw hmw => ?_)
          obtain ⟨rfl, hw⟩ := hmw
          exact e_iret dX4_copy_113 rfl (⟨rfl, hw⟩)
    · exact False.elim (q2 (inN_nI (by decide) hb))
  · exact False.elim (q1 (inN_nI (by decide) ha))

set_option maxHeartbeats 2000000 in
set_option maxRecDepth 20000 in
theorem s_Dcopy (m : jM) (a b : Nat) (ha : a < 8) (hb : b < 8) (i j n : Nat) (k k2 : Nat) (hk : k ≤ 40) (hk2 : k2 ≤ 40) (ea : m 100 a = nI k) (eb : m 100 b = nI k2) (hl : m 99 a = m 99 b) (hi : i + n ≤ k) (hj : j + n ≤ k2) : iX mX4_copy [.ref 98, .int (nI a), .int (nI i), .int (nI b), .int (nI j), .int (nI n)] m (fun v m1 => v = nI n ∧ jst (jup (jup m 103 (va_cpy (m 101) (m 103) (40 * a + i) 0 n)) 101 (va_cpy (va_cpy (m 101) (m 103) (40 * a + i) 0 n) (m 101) 0 (40 * b + j) n)) 98 3 0 = m1) := by
  refine jX_of (L := [some (.ref 98), some (.int (nI a)), some (.int (nI i)), some (.int (nI b)), some (.int (nI j)), some (.int (nI n)), none]) 1 rfl rfl (by decide +kernel) rfl ?_
  refine e_iload_n dX4_copy_0 rfl ?_
  refine e_callSi (n := 1) mX4_isRow [.int (nI a)] dX4_copy_1 ckX4_64 rfl (by decide +kernel) rfl rfl (Nat.le_of_ble_eq_true rfl) ⟨Nat.zero_le _, Nat.zero_le _⟩ (s_rowN (nI a) m) (fun v1 m1 hm1 => ?_)
  rcases hm1 with ⟨rfl, ⟨rfl, q1⟩ | ⟨rfl, q1⟩⟩
  · refine e_if_eq 14 dX4_copy_4 (by decide) (fun h => absurd h (by decide)) (fun c4 => ?_)
    refine e_iload_n dX4_copy_7 rfl ?_
    refine e_callSi (n := 1) mX4_isRow [.int (nI b)] dX4_copy_8 ckX4_64 rfl (by decide +kernel) rfl rfl (Nat.le_of_ble_eq_true rfl) ⟨Nat.zero_le _, Nat.zero_le _⟩ (s_rowN (nI b) m) (fun v8 m2 hm2 => ?_)
    rcases hm2 with ⟨rfl, ⟨rfl, q2⟩ | ⟨rfl, q2⟩⟩
    · refine e_if_ne 17 dX4_copy_11 (by decide) (fun c11 => ?_) (fun h => absurd h (by decide))
      refine e_aload_n dX4_copy_17 rfl ?_
      refine e_getR (o := 2) (b := 100) dX4_copy_18 lkX4_13 rfl rfl (by decide) rfl ?_
      refine e_iload_n dX4_copy_21 rfl ?_
      refine e_iald dX4_copy_22 rfl a rfl (by omega) (by decide) ?_
      rw [show m 100 a = nI k from ea]
      refine e_if_lt 35 dX4_copy_23 (by decide) (fun h => absurd h (nI_pos (by omega))) (fun c23 => ?_)
      refine e_aload_n dX4_copy_26 rfl ?_
      refine e_getR (o := 2) (b := 100) dX4_copy_27 lkX4_13 rfl rfl (by decide) rfl ?_
      refine e_iload_n dX4_copy_30 rfl ?_
      refine e_iald dX4_copy_31 rfl b rfl (by omega) (by decide) ?_
      rw [show m 100 b = nI k2 from eb]
      refine e_if_ge 41 dX4_copy_32 (by decide) (fun c32 => ?_) (fun h => absurd (nI_pos' (by omega)) h)
      refine e_aload_n dX4_copy_41 rfl ?_
      refine e_getR (o := 1) (b := 99) dX4_copy_42 lkX4_7 rfl rfl (by decide) rfl ?_
      refine e_iload_n dX4_copy_45 rfl ?_
      refine e_iald dX4_copy_46 rfl a rfl (by omega) (by decide) ?_
      refine e_aload_n dX4_copy_47 rfl ?_
      refine e_getR (o := 1) (b := 99) dX4_copy_48 lkX4_7 rfl rfl (by decide) rfl ?_
      refine e_iload_n dX4_copy_51 rfl ?_
      refine e_iald dX4_copy_52 rfl b rfl (by omega) (by decide) ?_
      refine e_icmp_eq 62 dX4_copy_53 (by decide) (fun c53 => ?_) (fun h => absurd hl h)
      refine e_iload dX4_copy_62 rfl ?_
      refine e_if_lt 108 dX4_copy_64 (by decide) (fun h => absurd h (nI_pos (by omega))) (fun c64 => ?_)
      refine e_iload_n dX4_copy_67 rfl ?_
      refine e_i2l dX4_copy_68 ?_
      refine e_lconst (v := 0) dX4_copy_69 rfl ?_
      refine e_aload_n dX4_copy_70 rfl ?_
      refine e_getR (o := 2) (b := 100) dX4_copy_71 lkX4_13 rfl rfl (by decide) rfl ?_
      refine e_iload_n dX4_copy_74 rfl ?_
      refine e_iald dX4_copy_75 rfl a rfl (by omega) (by decide) ?_
      rw [show m 100 a = nI k from ea]
      refine e_i2l dX4_copy_76 ?_
      refine e_iload dX4_copy_77 rfl ?_
      refine e_i2l dX4_copy_79 ?_
      refine e_lsub dX4_copy_80 ?_
      refine e_callSi (n := 3) mX4_in [.long ((nI i).toInt64), .long 0, .long (((nI k).toInt64) - ((nI n).toInt64))] dX4_copy_81 ckX4_60 rfl (by decide +kernel) rfl rfl (Nat.le_of_ble_eq_true rfl) ⟨Nat.zero_le _, Nat.zero_le _⟩ (s_inL (nI i) (nI n) k (by omega) m) (fun v81 m3 hm3 => ?_)
      rcases hm3 with ⟨rfl, ⟨rfl, q3⟩ | ⟨rfl, q3⟩⟩
      · refine e_if_eq 108 dX4_copy_84 (by decide) (fun h => absurd h (by decide)) (fun c84 => ?_)
        refine e_iload dX4_copy_87 rfl ?_
        refine e_i2l dX4_copy_89 ?_
        refine e_lconst (v := 0) dX4_copy_90 rfl ?_
        refine e_aload_n dX4_copy_91 rfl ?_
        refine e_getR (o := 2) (b := 100) dX4_copy_92 lkX4_13 rfl rfl (by decide) rfl ?_
        refine e_iload_n dX4_copy_95 rfl ?_
        refine e_iald dX4_copy_96 rfl b rfl (by omega) (by decide) ?_
        rw [show m 100 b = nI k2 from eb]
        refine e_i2l dX4_copy_97 ?_
        refine e_iload dX4_copy_98 rfl ?_
        refine e_i2l dX4_copy_100 ?_
        refine e_lsub dX4_copy_101 ?_
        refine e_callSi (n := 3) mX4_in [.long ((nI j).toInt64), .long 0, .long (((nI k2).toInt64) - ((nI n).toInt64))] dX4_copy_102 ckX4_60 rfl (by decide +kernel) rfl rfl (Nat.le_of_ble_eq_true rfl) ⟨Nat.zero_le _, Nat.zero_le _⟩ (s_inL (nI j) (nI n) k2 (by omega) m) (fun v102 m4 hm4 => ?_)
        rcases hm4 with ⟨rfl, ⟨rfl, q4⟩ | ⟨rfl, q4⟩⟩
        · refine e_if_ne 114 dX4_copy_105 (by decide) (fun c105 => ?_) (fun h => absurd h (by decide))
          refine e_iconst (v := 0) dX4_copy_114 rfl ?_
          refine e_istore (L' := [some (.ref 98), some (.int (nI a)), some (.int (nI i)), some (.int (nI b)), some (.int (nI j)), some (.int (nI n)), some (.int 0)]) dX4_copy_115 (Nat.le_of_ble_eq_true rfl) (Nat.le_of_ble_eq_true rfl) (jnl_at (i := 5) rfl) rfl ?_
          refine e_loop 117 n (fun u => [some (.ref 98), some (.int (nI a)), some (.int (nI i)), some (.int (nI b)), some (.int (nI j)), some (.int (nI n)), some (.int (nI u))]) (fun u => jup m 103 (va_cpy (m 101) (m 103) (40 * a + i) 0 u)) 0 (Nat.zero_le _) rfl (by rw [cpy_0, jup_id]) ?_ ?_
          · show jE _ _ 117 [some (.ref 98), some (.int (nI a)), some (.int (nI i)), some (.int (nI b)), some (.int (nI j)), some (.int (nI n)), some (.int (nI n))] [] (jup m 103 (va_cpy (m 101) (m 103) (40 * a + i) 0 n))
            obtain ⟨me, hme⟩ : ∃ y : jM, y = jup m 103 (va_cpy (m 101) (m 103) (40 * a + i) 0 n) := ⟨_, rfl⟩
            refine e_start rfl hme.symm ?_
            refine e_iload dX4_copy_117 rfl ?_
            refine e_iload dX4_copy_119 rfl ?_
            refine e_icmp_ge 151 dX4_copy_121 (by decide) (fun c121 => ?_) (fun h => absurd (j_done rfl rfl) h)
            refine e_iconst (v := 0) dX4_copy_151 rfl ?_
            refine e_istore (L' := [some (.ref 98), some (.int (nI a)), some (.int (nI i)), some (.int (nI b)), some (.int (nI j)), some (.int (nI n)), some (.int 0)]) dX4_copy_152 (Nat.le_of_ble_eq_true rfl) (Nat.le_of_ble_eq_true rfl) (jnl_at (i := 5) rfl) rfl ?_
            refine e_loop 154 n (fun u => [some (.ref 98), some (.int (nI a)), some (.int (nI i)), some (.int (nI b)), some (.int (nI j)), some (.int (nI n)), some (.int (nI u))]) (fun u => jup me 101 (va_cpy (me 103) (me 101) 0 (40 * b + j) u)) 0 (Nat.zero_le _) rfl (by rw [cpy_0, jup_id]) ?_ ?_
            · show jE _ _ 154 [some (.ref 98), some (.int (nI a)), some (.int (nI i)), some (.int (nI b)), some (.int (nI j)), some (.int (nI n)), some (.int (nI n))] [] (jup me 101 (va_cpy (me 103) (me 101) 0 (40 * b + j) n))
              obtain ⟨mf, hmf⟩ : ∃ y : jM, y = jup me 101 (va_cpy (me 103) (me 101) 0 (40 * b + j) n) := ⟨_, rfl⟩
              refine e_start rfl hmf.symm ?_
              refine e_iload dX4_copy_154 rfl ?_
              refine e_iload dX4_copy_156 rfl ?_
              refine e_icmp_ge 189 dX4_copy_158 (by decide) (fun c158 => ?_) (fun h => absurd (j_done rfl rfl) h)
              refine e_aload_n dX4_copy_189 rfl ?_
              refine e_iload dX4_copy_190 rfl ?_
              refine e_callVi (n := 1) mX4_well [.int (nI n)] dX4_copy_192 ckX4_75 rfl (by decide +kernel) rfl rfl rfl rfl (Nat.le_of_ble_eq_true rfl) ⟨Nat.zero_le _, Nat.zero_le _⟩ (s_well (nI n) mf) (fun v192 mw hmw => ?_)
              obtain ⟨rfl, hw⟩ := hmw
              exact e_iret dX4_copy_195 rfl (⟨rfl, by rw [← hw, hmf, hme, jup_s, jup_n _ _ (by decide)]⟩)
            · intro u hk ih
              show jE _ _ 154 [some (.ref 98), some (.int (nI a)), some (.int (nI i)), some (.int (nI b)), some (.int (nI j)), some (.int (nI n)), some (.int (nI u))] [] (jup me 101 (va_cpy (me 103) (me 101) 0 (40 * b + j) u))
              obtain ⟨mb, hmb⟩ : ∃ y : jM, y = jup me 101 (va_cpy (me 103) (me 101) 0 (40 * b + j) u) := ⟨_, rfl⟩
              refine e_start rfl hmb.symm ?_
              refine e_iload dX4_copy_154 rfl ?_
              refine e_iload dX4_copy_156 rfl ?_
              refine e_icmp_ge 189 dX4_copy_158 (by decide) (fun h => absurd h (j_more (N := n) rfl rfl (by omega) (by omega))) (fun c158 => ?_)
              refine e_aload_n dX4_copy_161 rfl ?_
              refine e_getR (o := 3) (b := 101) dX4_copy_162 lkX4_16 rfl rfl (by decide) rfl ?_
              refine e_bipush (v := 40) dX4_copy_165 rfl ?_
              refine e_iload_n dX4_copy_167 rfl ?_
              refine e_imul dX4_copy_168 ?_
              refine e_iload dX4_copy_169 rfl ?_
              refine e_iadd dX4_copy_171 ?_
              refine e_iload dX4_copy_172 rfl ?_
              refine e_iadd dX4_copy_174 ?_
              refine e_aload_n dX4_copy_175 rfl ?_
              refine e_getR (o := 5) (b := 103) dX4_copy_176 lkX4_22 rfl rfl (by decide) rfl ?_
              refine e_iload dX4_copy_179 rfl ?_
              refine e_iald dX4_copy_181 rfl u rfl (by omega) (by decide) ?_
              refine e_iast dX4_copy_182 rfl (((40 * b) + j) + u) (j_add (j_add (j_mul rfl rfl) rfl) rfl) (by omega) (by decide) (fun m6 hm6 => ?_)
              refine e_iinc (v := nI (u + 1)) (L' := [some (.ref 98), some (.int (nI a)), some (.int (nI i)), some (.int (nI b)), some (.int (nI j)), some (.int (nI n)), some (.int (nI (u + 1)))]) dX4_copy_183 rfl (j_inc rfl) (by decide) (jnl_at (i := 5) rfl) rfl ?_
              refine e_goto 154 dX4_copy_186 (by decide) ?_
              refine e_start rfl ?_ ih
              rw [hm6, hmb, jup_s, jup_jup, jup_n _ _ (by decide)]
              exact congrArg (jup me 101) (cpy_sd (by rw [Nat.zero_add]))
          · intro u hk ih
            show jE _ _ 117 [some (.ref 98), some (.int (nI a)), some (.int (nI i)), some (.int (nI b)), some (.int (nI j)), some (.int (nI n)), some (.int (nI u))] [] (jup m 103 (va_cpy (m 101) (m 103) (40 * a + i) 0 u))
            obtain ⟨mb, hmb⟩ : ∃ y : jM, y = jup m 103 (va_cpy (m 101) (m 103) (40 * a + i) 0 u) := ⟨_, rfl⟩
            refine e_start rfl hmb.symm ?_
            refine e_iload dX4_copy_117 rfl ?_
            refine e_iload dX4_copy_119 rfl ?_
            refine e_icmp_ge 151 dX4_copy_121 (by decide) (fun h => absurd h (j_more (N := n) rfl rfl (by omega) (by omega))) (fun c121 => ?_)
            refine e_aload_n dX4_copy_124 rfl ?_
            refine e_getR (o := 5) (b := 103) dX4_copy_125 lkX4_22 rfl rfl (by decide) rfl ?_
            refine e_iload dX4_copy_128 rfl ?_
            refine e_aload_n dX4_copy_130 rfl ?_
            refine e_getR (o := 3) (b := 101) dX4_copy_131 lkX4_16 rfl rfl (by decide) rfl ?_
            refine e_bipush (v := 40) dX4_copy_134 rfl ?_
            refine e_iload_n dX4_copy_136 rfl ?_
            refine e_imul dX4_copy_137 ?_
            refine e_iload_n dX4_copy_138 rfl ?_
            refine e_iadd dX4_copy_139 ?_
            refine e_iload dX4_copy_140 rfl ?_
            refine e_iadd dX4_copy_142 ?_
            refine e_iald dX4_copy_143 rfl (((40 * a) + i) + u) (j_add (j_add (j_mul rfl rfl) rfl) rfl) (by omega) (by decide) ?_
            refine e_iast dX4_copy_144 rfl u rfl (by omega) (by decide) (fun m7 hm7 => ?_)
            refine e_iinc (v := nI (u + 1)) (L' := [some (.ref 98), some (.int (nI a)), some (.int (nI i)), some (.int (nI b)), some (.int (nI j)), some (.int (nI n)), some (.int (nI (u + 1)))]) dX4_copy_145 rfl (j_inc rfl) (by decide) (jnl_at (i := 5) rfl) rfl ?_
            refine e_goto 117 dX4_copy_148 (by decide) ?_
            refine e_start rfl ?_ ih
            rw [hm7, hmb, jup_s, jup_jup, jup_n _ _ (by decide)]
            exact congrArg (jup m 103) (cpy_s0' rfl)
        · exact False.elim (q4 ⟨nI_pos' (by omega), by rw [nI_toInt (by omega), nI_toInt (by omega)]; omega⟩)
      · exact False.elim (q3 ⟨nI_pos' (by omega), by rw [nI_toInt (by omega), nI_toInt (by omega)]; omega⟩)
    · exact False.elim (q2 (inN_nI (by decide) hb))
  · exact False.elim (q1 (inN_nI (by decide) ha))

set_option maxHeartbeats 2000000 in
set_option maxRecDepth 20000 in
theorem s_Ddrop_b (m : jM) (x : Int32) (hb : ¬ inN x 8) : iX mX4_drop [.ref 98, .int x] m (fun v m1 => v = -1000001 ∧ m = m1) := by
  refine jX_of (L := [some (.ref 98), some (.int x), none]) 1 rfl rfl (by decide +kernel) rfl ?_
  refine e_iload_n dX4_drop_0 rfl ?_
  refine e_callSi (n := 1) mX4_isRow [.int x] dX4_drop_1 ckX4_64 rfl (by decide +kernel) rfl rfl (Nat.le_of_ble_eq_true rfl) ⟨Nat.zero_le _, Nat.zero_le _⟩ (s_rowN x m) (fun v1 m1 hm1 => ?_)
  rcases hm1 with ⟨rfl, ⟨rfl, q1⟩ | ⟨rfl, q1⟩⟩
  · exact False.elim (hb q1)
  · refine e_if_ne 10 dX4_drop_4 (by decide) (fun h => absurd h (by decide)) (fun c4 => ?_)
    refine e_ldc dX4_drop_7 kkX4_70 ?_
    exact e_iret dX4_drop_9 rfl (⟨rfl, rfl⟩)

set_option maxHeartbeats 2000000 in
set_option maxRecDepth 20000 in
theorem s_Ddrop_n (m : jM) (r : Nat) (hr : r < 8) (hn : m 100 r = -1) : iX mX4_drop [.ref 98, .int (nI r)] m (fun v m1 => v = (-1000010) - 1 ∧ jst m 98 3 1 = m1) := by
  refine jX_of (L := [some (.ref 98), some (.int (nI r)), none]) 1 rfl rfl (by decide +kernel) rfl ?_
  refine e_iload_n dX4_drop_0 rfl ?_
  refine e_callSi (n := 1) mX4_isRow [.int (nI r)] dX4_drop_1 ckX4_64 rfl (by decide +kernel) rfl rfl (Nat.le_of_ble_eq_true rfl) ⟨Nat.zero_le _, Nat.zero_le _⟩ (s_rowN (nI r) m) (fun v1 m1 hm1 => ?_)
  rcases hm1 with ⟨rfl, ⟨rfl, q1⟩ | ⟨rfl, q1⟩⟩
  · refine e_if_ne 10 dX4_drop_4 (by decide) (fun c4 => ?_) (fun h => absurd h (by decide))
    refine e_aload_n dX4_drop_10 rfl ?_
    refine e_getR (o := 2) (b := 100) dX4_drop_11 lkX4_13 rfl rfl (by decide) rfl ?_
    refine e_iload_n dX4_drop_14 rfl ?_
    refine e_iald dX4_drop_15 rfl r rfl (by omega) (by decide) ?_
    rw [show m 100 r = (-1) from hn]
    refine e_if_ge 25 dX4_drop_16 (by decide) (fun h => absurd h (by decide)) (fun c16 => ?_)
    refine e_aload_n dX4_drop_19 rfl ?_
    refine e_iconst (v := 1) dX4_drop_20 rfl ?_
    refine e_callVi (n := 1) mX4_find [.int 1] dX4_drop_21 ckX4_71 rfl (by decide +kernel) rfl rfl rfl rfl (Nat.le_of_ble_eq_true rfl) ⟨Nat.zero_le _, Nat.zero_le _⟩ (s_find 1 m) (fun v21 mw hmw => ?_)
    obtain ⟨rfl, hw⟩ := hmw
    exact e_iret dX4_drop_24 rfl (⟨rfl, hw⟩)
  · exact False.elim (q1 (inN_nI (by decide) hr))

set_option maxHeartbeats 2000000 in
set_option maxRecDepth 20000 in
theorem s_Ddrop (m : jM) (r : Nat) (hr : r < 8) (k : Nat) (hk : k ≤ 40) (hk2 : m 100 r = nI k) : iX mX4_drop [.ref 98, .int (nI r)] m (fun v m1 => v = nI k ∧ jst (jst m 100 r (-1)) 98 3 0 = m1) := by
  refine jX_of (L := [some (.ref 98), some (.int (nI r)), none]) 1 rfl rfl (by decide +kernel) rfl ?_
  refine e_iload_n dX4_drop_0 rfl ?_
  refine e_callSi (n := 1) mX4_isRow [.int (nI r)] dX4_drop_1 ckX4_64 rfl (by decide +kernel) rfl rfl (Nat.le_of_ble_eq_true rfl) ⟨Nat.zero_le _, Nat.zero_le _⟩ (s_rowN (nI r) m) (fun v1 m1 hm1 => ?_)
  rcases hm1 with ⟨rfl, ⟨rfl, q1⟩ | ⟨rfl, q1⟩⟩
  · refine e_if_ne 10 dX4_drop_4 (by decide) (fun c4 => ?_) (fun h => absurd h (by decide))
    refine e_aload_n dX4_drop_10 rfl ?_
    refine e_getR (o := 2) (b := 100) dX4_drop_11 lkX4_13 rfl rfl (by decide) rfl ?_
    refine e_iload_n dX4_drop_14 rfl ?_
    refine e_iald dX4_drop_15 rfl r rfl (by omega) (by decide) ?_
    rw [show m 100 r = nI k from hk2]
    refine e_if_ge 25 dX4_drop_16 (by decide) (fun c16 => ?_) (fun h => absurd (nI_pos' (by omega)) h)
    refine e_aload_n dX4_drop_25 rfl ?_
    refine e_getR (o := 2) (b := 100) dX4_drop_26 lkX4_13 rfl rfl (by decide) rfl ?_
    refine e_iload_n dX4_drop_29 rfl ?_
    refine e_iald dX4_drop_30 rfl r rfl (by omega) (by decide) ?_
    rw [show m 100 r = nI k from hk2]
    refine e_istore_n (L' := [some (.ref 98), some (.int (nI r)), some (.int (nI k))]) dX4_drop_31 (Nat.le_of_ble_eq_true rfl) (Nat.le_of_ble_eq_true rfl) (jnl_at (i := 1) rfl) rfl ?_
    refine e_aload_n dX4_drop_32 rfl ?_
    refine e_getR (o := 2) (b := 100) dX4_drop_33 lkX4_13 rfl rfl (by decide) rfl ?_
    refine e_iload_n dX4_drop_36 rfl ?_
    refine e_iconst (v := -1) dX4_drop_37 rfl ?_
    refine e_iast dX4_drop_38 rfl r rfl (by omega) (by decide) (fun ma hma => ?_)
    refine e_aload_n dX4_drop_39 rfl ?_
    refine e_iload_n dX4_drop_40 rfl ?_
    refine e_callVi (n := 1) mX4_well [.int (nI k)] dX4_drop_41 ckX4_75 rfl (by decide +kernel) rfl rfl rfl rfl (Nat.le_of_ble_eq_true rfl) ⟨Nat.zero_le _, Nat.zero_le _⟩ (s_well (nI k) ma) (fun v41 mw hmw => ?_)
    obtain ⟨rfl, hw⟩ := hmw
    exact e_iret dX4_drop_44 rfl (⟨rfl, by rw [← hw, hma]⟩)
  · exact False.elim (q1 (inN_nI (by decide) hr))

set_option maxHeartbeats 2000000 in
set_option maxRecDepth 20000 in
theorem s_Dfeed_b (m : jM) (x : Int32) (hb : ¬ inN x 256) : iX mX4_feed [.ref 98, .int x] m (fun v m1 => v = -1000001 ∧ m = m1) := by
  refine jX_of (L := [some (.ref 98), some (.int x)]) 0 rfl rfl (by decide +kernel) rfl ?_
  refine e_iload_n dX4_feed_0 rfl ?_
  refine e_i2l dX4_feed_1 ?_
  refine e_lconst (v := 0) dX4_feed_2 rfl ?_
  refine e_ldc2 dX4_feed_3 kkX4_82 ?_
  refine e_callSi (n := 3) mX4_in [.long x.toInt64, .long 0, .long (255)] dX4_feed_6 ckX4_60 rfl (by decide +kernel) rfl rfl (Nat.le_of_ble_eq_true rfl) ⟨Nat.zero_le _, Nat.zero_le _⟩ (s_inN x (255) 256 (by decide) (by decide) m) (fun v6 m1 hm1 => ?_)
  rcases hm1 with ⟨rfl, ⟨rfl, q1⟩ | ⟨rfl, q1⟩⟩
  · exact False.elim (hb q1)
  · refine e_if_ne 15 dX4_feed_9 (by decide) (fun h => absurd h (by decide)) (fun c9 => ?_)
    refine e_ldc dX4_feed_12 kkX4_70 ?_
    exact e_iret dX4_feed_14 rfl (⟨rfl, rfl⟩)

set_option maxHeartbeats 2000000 in
set_option maxRecDepth 20000 in
theorem s_Dfeed_f (m : jM) (x : Int32) (hb : inN x 256) (hc : m 98 8 = 120) : iX mX4_feed [.ref 98, .int x] m (fun v m1 => v = -1000003 ∧ m = m1) := by
  refine jX_of (L := [some (.ref 98), some (.int x)]) 0 rfl rfl (by decide +kernel) rfl ?_
  refine e_iload_n dX4_feed_0 rfl ?_
  refine e_i2l dX4_feed_1 ?_
  refine e_lconst (v := 0) dX4_feed_2 rfl ?_
  refine e_ldc2 dX4_feed_3 kkX4_82 ?_
  refine e_callSi (n := 3) mX4_in [.long x.toInt64, .long 0, .long (255)] dX4_feed_6 ckX4_60 rfl (by decide +kernel) rfl rfl (Nat.le_of_ble_eq_true rfl) ⟨Nat.zero_le _, Nat.zero_le _⟩ (s_inN x (255) 256 (by decide) (by decide) m) (fun v6 m1 hm1 => ?_)
  rcases hm1 with ⟨rfl, ⟨rfl, q1⟩ | ⟨rfl, q1⟩⟩
  · refine e_if_ne 15 dX4_feed_9 (by decide) (fun c9 => ?_) (fun h => absurd h (by decide))
    refine e_aload_n dX4_feed_15 rfl ?_
    refine e_getI dX4_feed_16 lkX4_84 rfl rfl ?_
    rw [show m 98 8 = 120 from hc]
    refine e_bipush (v := 120) dX4_feed_19 rfl ?_
    refine e_icmp_ne 27 dX4_feed_21 (by decide) (fun h => absurd rfl h) (fun c21 => ?_)
    refine e_ldc dX4_feed_24 kkX4_87 ?_
    exact e_iret dX4_feed_26 rfl (⟨rfl, rfl⟩)
  · exact False.elim (q1 hb)

set_option maxHeartbeats 2000000 in
set_option maxRecDepth 20000 in
theorem s_Dfeed (m : jM) (x : Int32) (hb : inN x 256) (k : Nat) (hk : k < 120) (hc : m 98 8 = nI k) : iX mX4_feed [.ref 98, .int x] m (fun v m1 => v = nI (k + 1) ∧ jst (jst m 104 k x) 98 8 (nI (k + 1)) = m1) := by
  refine jX_of (L := [some (.ref 98), some (.int x)]) 0 rfl rfl (by decide +kernel) rfl ?_
  refine e_iload_n dX4_feed_0 rfl ?_
  refine e_i2l dX4_feed_1 ?_
  refine e_lconst (v := 0) dX4_feed_2 rfl ?_
  refine e_ldc2 dX4_feed_3 kkX4_82 ?_
  refine e_callSi (n := 3) mX4_in [.long x.toInt64, .long 0, .long (255)] dX4_feed_6 ckX4_60 rfl (by decide +kernel) rfl rfl (Nat.le_of_ble_eq_true rfl) ⟨Nat.zero_le _, Nat.zero_le _⟩ (s_inN x (255) 256 (by decide) (by decide) m) (fun v6 m1 hm1 => ?_)
  rcases hm1 with ⟨rfl, ⟨rfl, q1⟩ | ⟨rfl, q1⟩⟩
  · refine e_if_ne 15 dX4_feed_9 (by decide) (fun c9 => ?_) (fun h => absurd h (by decide))
    refine e_aload_n dX4_feed_15 rfl ?_
    refine e_getI dX4_feed_16 lkX4_84 rfl rfl ?_
    rw [show m 98 8 = nI k from hc]
    refine e_bipush (v := 120) dX4_feed_19 rfl ?_
    refine e_icmp_ne 27 dX4_feed_21 (by decide) (fun c21 => ?_) (fun h => absurd h (fun q => by have := (j_eq (a := k) (b := 120) (by omega) (by decide)).mp q; omega))
    refine e_aload_n dX4_feed_27 rfl ?_
    refine e_getR (o := 6) (b := 104) dX4_feed_28 lkX4_25 rfl rfl (by decide) rfl ?_
    refine e_aload_n dX4_feed_31 rfl ?_
    refine e_getI dX4_feed_32 lkX4_84 rfl rfl ?_
    rw [show m 98 8 = nI k from hc]
    refine e_iload_n dX4_feed_35 rfl ?_
    refine e_iast dX4_feed_36 rfl k rfl (by omega) (by decide) (fun ma hma => ?_)
    refine e_aload_n dX4_feed_37 rfl ?_
    refine e_dup dX4_feed_38 rfl ?_
    refine e_getI dX4_feed_39 lkX4_84 rfl rfl ?_
    rw [show ma 98 8 = nI k from by rw [hma, jup_n _ _ (by decide)]; exact hc]
    refine e_iconst (v := 1) dX4_feed_42 rfl ?_
    refine e_iadd dX4_feed_43 ?_
    rw [show (nI k) + 1 = nI (k + 1) from nI_1 k]
    refine e_putI dX4_feed_44 lkX4_84 rfl rfl fwX4_8 (Or.inl rfl) (fun mb hmb => ?_)
    refine e_aload_n dX4_feed_47 rfl ?_
    refine e_getI dX4_feed_48 lkX4_84 rfl rfl ?_
    rw [show mb 98 8 = nI (k + 1) from by rw [hmb, jup_s, upd_s]]
    exact e_iret dX4_feed_51 rfl (⟨rfl, by rw [hmb, hma]⟩)
  · exact False.elim (q1 hb)
