set_option maxHeartbeats 2000000 in
set_option maxRecDepth 20000 in
theorem s_in (a b c : Int64) (m : jM) : iX mX4_in [.long a, .long b, .long c] m (fun v m1 => m = m1 ∧ isB v (b ≤ a ∧ a ≤ c)) := by
  refine jX_of (L := [some (.long a), none, some (.long b), none, some (.long c), none]) 0 rfl rfl (by decide +kernel) rfl ?_
  refine e_lload_n dX4_in_0 rfl ?_
  refine e_lload_n dX4_in_1 rfl ?_
  refine e_lcmp dX4_in_2 ?_
  refine e_if_lt 17 dX4_in_3 (by decide) (fun c3 => ?_) (fun c3 => ?_)
  · refine e_iconst (v := 0) dX4_in_17 rfl ?_
    exact e_zret dX4_in_18 rfl (by decide) (⟨rfl, by first | exact isB.t ⟨Int64.not_lt.mp (fun q => c3 ((lg_lt a b).mpr q)), Int64.not_lt.mp (fun q => c10 ((lg_gt a c).mpr q))⟩ | exact isB.f (fun q => Int64.not_lt.mpr q.2 ((lg_gt a c).mp c10)) | exact isB.f (fun q => Int64.not_lt.mpr q.1 ((lg_lt a b).mp c3))⟩)
  · refine e_lload_n dX4_in_6 rfl ?_
    refine e_lload dX4_in_7 rfl ?_
    refine e_lcmp dX4_in_9 ?_
    refine e_if_gt 17 dX4_in_10 (by decide) (fun c10 => ?_) (fun c10 => ?_)
    · refine e_iconst (v := 0) dX4_in_17 rfl ?_
      exact e_zret dX4_in_18 rfl (by decide) (⟨rfl, by first | exact isB.t ⟨Int64.not_lt.mp (fun q => c3 ((lg_lt a b).mpr q)), Int64.not_lt.mp (fun q => c10 ((lg_gt a c).mpr q))⟩ | exact isB.f (fun q => Int64.not_lt.mpr q.2 ((lg_gt a c).mp c10)) | exact isB.f (fun q => Int64.not_lt.mpr q.1 ((lg_lt a b).mp c3))⟩)
    · refine e_iconst (v := 1) dX4_in_13 rfl ?_
      refine e_goto 18 dX4_in_14 (by decide) ?_
      exact e_zret dX4_in_18 rfl (by decide) (⟨rfl, by first | exact isB.t ⟨Int64.not_lt.mp (fun q => c3 ((lg_lt a b).mpr q)), Int64.not_lt.mp (fun q => c10 ((lg_gt a c).mpr q))⟩ | exact isB.f (fun q => Int64.not_lt.mpr q.2 ((lg_gt a c).mp c10)) | exact isB.f (fun q => Int64.not_lt.mpr q.1 ((lg_lt a b).mp c3))⟩)

theorem s_in32 (x lo hi : Int32) (m : jM) : iX mX4_in [.long x.toInt64, .long lo.toInt64, .long hi.toInt64] m (fun v m1 => m = m1 ∧ isB v (lo ≤ x ∧ x ≤ hi)) := by
  have h := s_in x.toInt64 lo.toInt64 hi.toInt64 m
  rw [j_wle, j_wle] at h
  exact h

set_option maxHeartbeats 2000000 in
set_option maxRecDepth 20000 in
theorem s_has (x k : Int32) (m : jM) : iX mX4_has [.int x, .int k] m (fun v m1 => m = m1 ∧ isB v ((x >>> (k &&& 31)) &&& 1 = 1)) := by
  refine jX_of (L := [some (.int x), some (.int k)]) 0 rfl rfl (by decide +kernel) rfl ?_
  refine e_iload_n dX4_has_0 rfl ?_
  refine e_iload_n dX4_has_1 rfl ?_
  refine e_ishr dX4_has_2 ?_
  refine e_iconst (v := 1) dX4_has_3 rfl ?_
  refine e_iand dX4_has_4 ?_
  refine e_iconst (v := 1) dX4_has_5 rfl ?_
  refine e_icmp_ne 13 dX4_has_6 (by decide) (fun c6 => ?_) (fun c6 => ?_)
  · refine e_iconst (v := 0) dX4_has_13 rfl ?_
    exact e_zret dX4_has_14 rfl (by decide) (⟨rfl, by first | exact isB.t c6 | exact isB.f c6⟩)
  · refine e_iconst (v := 1) dX4_has_9 rfl ?_
    refine e_goto 14 dX4_has_10 (by decide) ?_
    exact e_zret dX4_has_14 rfl (by decide) (⟨rfl, by first | exact isB.t c6 | exact isB.f c6⟩)

set_option maxHeartbeats 2000000 in
set_option maxRecDepth 20000 in
theorem s_find (f : Int32) (m : jM) : iX mX4_find [.ref 98, .int f] m (fun v m1 => v = (-1000010) - f ∧ jst m 98 3 f = m1) := by
  refine jX_of (L := [some (.ref 98), some (.int f)]) 0 rfl rfl (by decide +kernel) rfl ?_
  refine e_aload_n dX4_find_0 rfl ?_
  refine e_iload_n dX4_find_1 rfl ?_
  refine e_putI dX4_find_2 lkX4_53 rfl rfl fwX4_3 (Or.inl rfl) (fun m1 hm1 => ?_)
  refine e_ldc dX4_find_5 kkX4_57 ?_
  refine e_iload_n dX4_find_7 rfl ?_
  refine e_isub dX4_find_8 ?_
  exact e_iret dX4_find_9 rfl (⟨rfl, hm1.symm⟩)

set_option maxHeartbeats 2000000 in
set_option maxRecDepth 20000 in
theorem s_well (x : Int32) (m : jM) : iX mX4_well [.ref 98, .int x] m (fun v m1 => v = x ∧ jst m 98 3 0 = m1) := by
  refine jX_of (L := [some (.ref 98), some (.int x)]) 0 rfl rfl (by decide +kernel) rfl ?_
  refine e_aload_n dX4_well_0 rfl ?_
  refine e_iconst (v := 0) dX4_well_1 rfl ?_
  refine e_putI dX4_well_2 lkX4_53 rfl rfl fwX4_3 (Or.inl rfl) (fun m1 hm1 => ?_)
  refine e_iload_n dX4_well_5 rfl ?_
  exact e_iret dX4_well_6 rfl (⟨rfl, hm1.symm⟩)

set_option maxHeartbeats 2000000 in
set_option maxRecDepth 20000 in
theorem s_isRow (x : Int32) (m : jM) : iX mX4_isRow [.int x] m (fun v m1 => m = m1 ∧ isB v (0 ≤ x ∧ x ≤ 7)) := by
  refine jX_of (L := [some (.int x)]) 0 rfl rfl (by decide +kernel) rfl ?_
  refine e_iload_n dX4_isRow_0 rfl ?_
  refine e_i2l dX4_isRow_1 ?_
  refine e_lconst (v := 0) dX4_isRow_2 rfl ?_
  refine e_ldc2 dX4_isRow_3 kkX4_58 ?_
  refine e_callSi (n := 3) mX4_in [.long x.toInt64, .long 0, .long (7)] dX4_isRow_6 ckX4_60 rfl (by decide +kernel) rfl rfl (by decide) ⟨Nat.zero_le _, Nat.zero_le _⟩ (s_in32 x 0 (7) m) (fun v6 m1 hm1 => ?_)
  rcases hm1 with ⟨rfl, ⟨rfl, q⟩ | ⟨rfl, q⟩⟩
  · exact e_zret dX4_isRow_9 rfl (by decide) (⟨rfl, by first | exact isB.t q | exact isB.f q⟩)
  · exact e_zret dX4_isRow_9 rfl (by decide) (⟨rfl, by first | exact isB.t q | exact isB.f q⟩)

/-- a number as the lane keeps it -/
def laneF (lane v : Int32) : Int32 := if lane = 0 then (v <<< ((24 : Int32) &&& 31)) >>> ((24 : Int32) &&& 31) else if lane = 1 then (v <<< ((16 : Int32) &&& 31)) >>> ((16 : Int32) &&& 31) else v

set_option maxHeartbeats 2000000 in
set_option maxRecDepth 20000 in
theorem s_asLane (l v : Int32) (m : jM) : iX mX4_asLane [.int l, .int v] m (fun r m1 => r = laneF l v ∧ m = m1) := by
  refine jX_of (L := [some (.int l), some (.int v)]) 0 rfl rfl (by decide +kernel) rfl ?_
  refine e_iload_n dX4_asLane_0 rfl ?_
  refine e_if_ne 14 dX4_asLane_1 (by decide) (fun c1 => ?_) (fun c1 => ?_)
  · refine e_iload_n dX4_asLane_14 rfl ?_
    refine e_iconst (v := 1) dX4_asLane_15 rfl ?_
    refine e_icmp_ne 29 dX4_asLane_16 (by decide) (fun c16 => ?_) (fun c16 => ?_)
    · refine e_iload_n dX4_asLane_29 rfl ?_
      exact e_iret dX4_asLane_30 rfl (⟨by unfold laneF; first | rw [if_neg c1, if_neg c16] | rw [if_neg c1, if_pos (Decidable.not_not.mp c16)] | rw [if_pos (Decidable.not_not.mp c1)] | simp_all, rfl⟩)
    · refine e_iload_n dX4_asLane_19 rfl ?_
      refine e_bipush (v := 16) dX4_asLane_20 rfl ?_
      refine e_ishl dX4_asLane_22 ?_
      refine e_bipush (v := 16) dX4_asLane_23 rfl ?_
      refine e_ishr dX4_asLane_25 ?_
      refine e_goto 30 dX4_asLane_26 (by decide) ?_
      exact e_iret dX4_asLane_30 rfl (⟨by unfold laneF; first | rw [if_neg c1, if_neg c16] | rw [if_neg c1, if_pos (Decidable.not_not.mp c16)] | rw [if_pos (Decidable.not_not.mp c1)] | simp_all, rfl⟩)
  · refine e_iload_n dX4_asLane_4 rfl ?_
    refine e_bipush (v := 24) dX4_asLane_5 rfl ?_
    refine e_ishl dX4_asLane_7 ?_
    refine e_bipush (v := 24) dX4_asLane_8 rfl ?_
    refine e_ishr dX4_asLane_10 ?_
    refine e_goto 30 dX4_asLane_11 (by decide) ?_
    exact e_iret dX4_asLane_30 rfl (⟨by unfold laneF; first | rw [if_neg c1, if_neg c16] | rw [if_neg c1, if_pos (Decidable.not_not.mp c16)] | rw [if_pos (Decidable.not_not.mp c1)] | simp_all, rfl⟩)

set_option maxHeartbeats 2000000 in
set_option maxRecDepth 20000 in
theorem s_isPan (x : Int32) (m : jM) : iX mX4_isPan [.ref 98, .int x] m (fun v m1 => m = m1 ∧ isB v (0 ≤ x ∧ x ≤ m 102 2 - 1)) := by
  refine jX_of (L := [some (.ref 98), some (.int x)]) 0 rfl rfl (by decide +kernel) rfl ?_
  refine e_iload_n dX4_isPan_0 rfl ?_
  refine e_i2l dX4_isPan_1 ?_
  refine e_lconst (v := 0) dX4_isPan_2 rfl ?_
  refine e_aload_n dX4_isPan_3 rfl ?_
  refine e_getR (o := 4) (b := 102) dX4_isPan_4 lkX4_19 rfl rfl (by decide) rfl ?_
  refine e_iconst (v := 2) dX4_isPan_7 rfl ?_
  refine e_iald dX4_isPan_8 rfl 2 rfl (by decide) (by decide) ?_
  refine e_iconst (v := 1) dX4_isPan_9 rfl ?_
  refine e_isub dX4_isPan_10 ?_
  refine e_i2l dX4_isPan_11 ?_
  refine e_callSi (n := 3) mX4_in [.long x.toInt64, .long 0, .long (((m 102 2) - 1).toInt64)] dX4_isPan_12 ckX4_60 rfl (by decide +kernel) rfl rfl (by decide) ⟨Nat.zero_le _, Nat.zero_le _⟩ (s_in32 x 0 ((m 102 2) - 1) m) (fun v12 m1 hm1 => ?_)
  rcases hm1 with ⟨rfl, ⟨rfl, q⟩ | ⟨rfl, q⟩⟩
  · exact e_zret dX4_isPan_15 rfl (by decide) (⟨rfl, by first | exact isB.t q | exact isB.f q⟩)
  · exact e_zret dX4_isPan_15 rfl (by decide) (⟨rfl, by first | exact isB.t q | exact isB.f q⟩)

set_option maxHeartbeats 2000000 in
set_option maxRecDepth 20000 in
theorem s_isSinger (x : Int32) (m : jM) : iX mX4_isSinger [.ref 98, .int x] m (fun v m1 => m = m1 ∧ isB v (0 ≤ x ∧ x ≤ m 102 1 - 1)) := by
  refine jX_of (L := [some (.ref 98), some (.int x)]) 0 rfl rfl (by decide +kernel) rfl ?_
  refine e_iload_n dX4_isSinger_0 rfl ?_
  refine e_i2l dX4_isSinger_1 ?_
  refine e_lconst (v := 0) dX4_isSinger_2 rfl ?_
  refine e_aload_n dX4_isSinger_3 rfl ?_
  refine e_getR (o := 4) (b := 102) dX4_isSinger_4 lkX4_19 rfl rfl (by decide) rfl ?_
  refine e_iconst (v := 1) dX4_isSinger_7 rfl ?_
  refine e_iald dX4_isSinger_8 rfl 1 rfl (by decide) (by decide) ?_
  refine e_iconst (v := 1) dX4_isSinger_9 rfl ?_
  refine e_isub dX4_isSinger_10 ?_
  refine e_i2l dX4_isSinger_11 ?_
  refine e_callSi (n := 3) mX4_in [.long x.toInt64, .long 0, .long (((m 102 1) - 1).toInt64)] dX4_isSinger_12 ckX4_60 rfl (by decide +kernel) rfl rfl (by decide) ⟨Nat.zero_le _, Nat.zero_le _⟩ (s_in32 x 0 ((m 102 1) - 1) m) (fun v12 m1 hm1 => ?_)
  rcases hm1 with ⟨rfl, ⟨rfl, q⟩ | ⟨rfl, q⟩⟩
  · exact e_zret dX4_isSinger_15 rfl (by decide) (⟨rfl, by first | exact isB.t q | exact isB.f q⟩)
  · exact e_zret dX4_isSinger_15 rfl (by decide) (⟨rfl, by first | exact isB.t q | exact isB.f q⟩)

/-- singer k can sing a note -/
def canP (st : Nat → Int32) (k : Nat) (x : Int32) : Prop := x = 7 ∨ ((st (4 + k) ≤ x ∧ x ≤ st (7 + k)) ∧ st (13 + k) < st (10 + k))

set_option maxHeartbeats 2000000 in
set_option maxRecDepth 20000 in
theorem s_canSing (k : Nat) (hk : k < 3) (x : Int32) (m : jM) : iX mX4_canSing [.ref 98, .int (nI k), .int x] m (fun v m1 => m = m1 ∧ isB v (canP (m 102) k x)) := by
  refine jX_of (L := [some (.ref 98), some (.int (nI k)), some (.int x)]) 0 rfl rfl (by decide +kernel) rfl ?_
  refine e_iload_n dX4_canSing_0 rfl ?_
  refine e_bipush (v := 7) dX4_canSing_1 rfl ?_
  refine e_icmp_eq 54 dX4_canSing_3 (by decide) (fun c3 => ?_) (fun c3 => ?_)
  · refine e_iconst (v := 1) dX4_canSing_54 rfl ?_
    refine e_goto 59 dX4_canSing_55 (by decide) ?_
    exact e_zret dX4_canSing_59 rfl (by decide) (⟨rfl, by unfold canP; first | exact isB.t (Or.inl c3) | exact isB.t (Or.inr ⟨q, Int32.not_le.mp c51⟩) | exact isB.f (fun z => z.elim c3 (fun z => absurd z.2 (Int32.not_lt.mpr c51))) | exact isB.f (fun z => z.elim c3 (fun z => q z.1)) | simp_all⟩)
  · refine e_iload_n dX4_canSing_6 rfl ?_
    refine e_i2l dX4_canSing_7 ?_
    refine e_aload_n dX4_canSing_8 rfl ?_
    refine e_getR (o := 4) (b := 102) dX4_canSing_9 lkX4_19 rfl rfl (by decide) rfl ?_
    refine e_iconst (v := 4) dX4_canSing_12 rfl ?_
    refine e_iload_n dX4_canSing_13 rfl ?_
    refine e_iadd dX4_canSing_14 ?_
    refine e_iald dX4_canSing_15 rfl (4 + k) (j_add rfl rfl) (by omega) (by decide) ?_
    refine e_i2l dX4_canSing_16 ?_
    refine e_aload_n dX4_canSing_17 rfl ?_
    refine e_getR (o := 4) (b := 102) dX4_canSing_18 lkX4_19 rfl rfl (by decide) rfl ?_
    refine e_bipush (v := 7) dX4_canSing_21 rfl ?_
    refine e_iload_n dX4_canSing_23 rfl ?_
    refine e_iadd dX4_canSing_24 ?_
    refine e_iald dX4_canSing_25 rfl (7 + k) (j_add rfl rfl) (by omega) (by decide) ?_
    refine e_i2l dX4_canSing_26 ?_
    refine e_callSi (n := 3) mX4_in [.long x.toInt64, .long ((m 102 (4 + k)).toInt64), .long ((m 102 (7 + k)).toInt64)] dX4_canSing_27 ckX4_60 rfl (by decide +kernel) rfl rfl (by decide) ⟨Nat.zero_le _, Nat.zero_le _⟩ (s_in32 x (m 102 (4 + k)) (m 102 (7 + k)) m) (fun v27 m1 hm1 => ?_)
    rcases hm1 with ⟨rfl, ⟨rfl, q⟩ | ⟨rfl, q⟩⟩
    · refine e_if_eq 58 dX4_canSing_30 (by decide) (fun h => absurd h (by decide)) (fun c30 => ?_)
      refine e_aload_n dX4_canSing_33 rfl ?_
      refine e_getR (o := 4) (b := 102) dX4_canSing_34 lkX4_19 rfl rfl (by decide) rfl ?_
      refine e_bipush (v := 13) dX4_canSing_37 rfl ?_
      refine e_iload_n dX4_canSing_39 rfl ?_
      refine e_iadd dX4_canSing_40 ?_
      refine e_iald dX4_canSing_41 rfl (13 + k) (j_add rfl rfl) (by omega) (by decide) ?_
      refine e_aload_n dX4_canSing_42 rfl ?_
      refine e_getR (o := 4) (b := 102) dX4_canSing_43 lkX4_19 rfl rfl (by decide) rfl ?_
      refine e_bipush (v := 10) dX4_canSing_46 rfl ?_
      refine e_iload_n dX4_canSing_48 rfl ?_
      refine e_iadd dX4_canSing_49 ?_
      refine e_iald dX4_canSing_50 rfl (10 + k) (j_add rfl rfl) (by omega) (by decide) ?_
      refine e_icmp_ge 58 dX4_canSing_51 (by decide) (fun c51 => ?_) (fun c51 => ?_)
      · refine e_iconst (v := 0) dX4_canSing_58 rfl ?_
        exact e_zret dX4_canSing_59 rfl (by decide) (⟨rfl, by unfold canP; first | exact isB.t (Or.inl c3) | exact isB.t (Or.inr ⟨q, Int32.not_le.mp c51⟩) | exact isB.f (fun z => z.elim c3 (fun z => absurd z.2 (Int32.not_lt.mpr c51))) | exact isB.f (fun z => z.elim c3 (fun z => q z.1)) | simp_all⟩)
      · refine e_iconst (v := 1) dX4_canSing_54 rfl ?_
        refine e_goto 59 dX4_canSing_55 (by decide) ?_
        exact e_zret dX4_canSing_59 rfl (by decide) (⟨rfl, by unfold canP; first | exact isB.t (Or.inl c3) | exact isB.t (Or.inr ⟨q, Int32.not_le.mp c51⟩) | exact isB.f (fun z => z.elim c3 (fun z => absurd z.2 (Int32.not_lt.mpr c51))) | exact isB.f (fun z => z.elim c3 (fun z => q z.1)) | simp_all⟩)
    · refine e_if_eq 58 dX4_canSing_30 (by decide) (fun c30 => ?_) (fun h => absurd h (by decide))
      refine e_iconst (v := 0) dX4_canSing_58 rfl ?_
      exact e_zret dX4_canSing_59 rfl (by decide) (⟨rfl, by unfold canP; first | exact isB.t (Or.inl c3) | exact isB.t (Or.inr ⟨q, Int32.not_le.mp c51⟩) | exact isB.f (fun z => z.elim c3 (fun z => absurd z.2 (Int32.not_lt.mpr c51))) | exact isB.f (fun z => z.elim c3 (fun z => q z.1)) | simp_all⟩)

set_option maxHeartbeats 2000000 in
set_option maxRecDepth 20000 in
theorem s_allRest (m : jM) : vX mX4_allRest [.ref 98] m (fun m1 => jup m 106 (va_cpy (fun _ => 7) (m 106) 0 0 3) = m1) := by
  refine jX_of (L := [some (.ref 98), none]) 1 rfl rfl (by decide +kernel) rfl ?_
  refine e_iconst (v := 0) dX4_allRest_0 rfl ?_
  refine e_istore_n (L' := [some (.ref 98), some (.int 0)]) dX4_allRest_1 (by decide) (by decide) (jnl_at (i := 0) rfl) rfl ?_
  refine e_loop 2 3 (fun k => [some (.ref 98), some (.int (nI k))]) (fun k => jup m 106 (va_cpy (fun _ => 7) (m 106) 0 0 k)) 0 (Nat.zero_le _) rfl (by rw [cpy_0, jup_id]) ?_ ?_
  · show jE _ _ 2 [some (.ref 98), some (.int (nI 3))] [] (jup m 106 (va_cpy (fun _ => 7) (m 106) 0 0 3))
    obtain ⟨mm1, hmm1⟩ : ∃ y : jM, y = jup m 106 (va_cpy (fun _ => 7) (m 106) 0 0 3) := ⟨_, rfl⟩
    refine e_start rfl hmm1.symm ?_
    refine e_iload_n dX4_allRest_2 rfl ?_
    refine e_iconst (v := 3) dX4_allRest_3 rfl ?_
    refine e_icmp_ge 21 dX4_allRest_4 (by decide) (fun c4 => ?_) (fun h => absurd (j_done rfl rfl) h)
    exact e_vret dX4_allRest_21 rfl (hmm1.symm)
  · intro k hk ih
    show jE _ _ 2 [some (.ref 98), some (.int (nI k))] [] (jup m 106 (va_cpy (fun _ => 7) (m 106) 0 0 k))
    obtain ⟨mm2, hmm2⟩ : ∃ y : jM, y = jup m 106 (va_cpy (fun _ => 7) (m 106) 0 0 k) := ⟨_, rfl⟩
    refine e_start rfl hmm2.symm ?_
    refine e_iload_n dX4_allRest_2 rfl ?_
    refine e_iconst (v := 3) dX4_allRest_3 rfl ?_
    refine e_icmp_ge 21 dX4_allRest_4 (by decide) (fun h => absurd h (j_more (N := 3) rfl rfl (by omega) (by omega))) (fun c4 => ?_)
    refine e_aload_n dX4_allRest_7 rfl ?_
    refine e_getR (o := 8) (b := 106) dX4_allRest_8 lkX4_31 rfl rfl (by decide) rfl ?_
    refine e_iload_n dX4_allRest_11 rfl ?_
    refine e_bipush (v := 7) dX4_allRest_12 rfl ?_
    refine e_iast dX4_allRest_14 rfl k rfl (by omega) (by decide) (fun m3 hm3 => ?_)
    refine e_iinc (v := nI (k + 1)) (L' := [some (.ref 98), some (.int (nI (k + 1)))]) dX4_allRest_15 rfl (j_inc rfl) (by decide) (jnl_at (i := 0) rfl) rfl ?_
    refine e_goto 2 dX4_allRest_18 (by decide) ?_
    refine e_start rfl ?_ ih
    rw [hm3, hmm2, jup_s, jup_jup]
    exact congrArg (jup m 106) (cpy_s0' (by first | rfl | (rw [jup_n _ _ (by decide)]; first | rfl | (congr 1; omega)) | (simp only [Nat.zero_add]; done) | (simp only [Nat.zero_add, jup_n _ _ (show _ ≠ _ by decide)]; done) | (rw [Nat.zero_add])))

set_option maxHeartbeats 2000000 in
set_option maxRecDepth 20000 in
theorem s_putAside (m : jM) : vX mX4_putAside [.ref 98] m (fun m1 => jup m 108 (va_cpy (m 102) (m 108) 0 0 51) = m1) := by
  refine jX_of (L := [some (.ref 98), none]) 1 rfl rfl (by decide +kernel) rfl ?_
  refine e_iconst (v := 0) dX4_putAside_0 rfl ?_
  refine e_istore_n (L' := [some (.ref 98), some (.int 0)]) dX4_putAside_1 (by decide) (by decide) (jnl_at (i := 0) rfl) rfl ?_
  refine e_loop 2 51 (fun k => [some (.ref 98), some (.int (nI k))]) (fun k => jup m 108 (va_cpy (m 102) (m 108) 0 0 k)) 0 (Nat.zero_le _) rfl (by rw [cpy_0, jup_id]) ?_ ?_
  · show jE _ _ 2 [some (.ref 98), some (.int (nI 51))] [] (jup m 108 (va_cpy (m 102) (m 108) 0 0 51))
    obtain ⟨mm1, hmm1⟩ : ∃ y : jM, y = jup m 108 (va_cpy (m 102) (m 108) 0 0 51) := ⟨_, rfl⟩
    refine e_start rfl hmm1.symm ?_
    refine e_iload_n dX4_putAside_2 rfl ?_
    refine e_bipush (v := 51) dX4_putAside_3 rfl ?_
    refine e_icmp_ge 26 dX4_putAside_5 (by decide) (fun c5 => ?_) (fun h => absurd (j_done rfl rfl) h)
    exact e_vret dX4_putAside_26 rfl (hmm1.symm)
  · intro k hk ih
    show jE _ _ 2 [some (.ref 98), some (.int (nI k))] [] (jup m 108 (va_cpy (m 102) (m 108) 0 0 k))
    obtain ⟨mm2, hmm2⟩ : ∃ y : jM, y = jup m 108 (va_cpy (m 102) (m 108) 0 0 k) := ⟨_, rfl⟩
    refine e_start rfl hmm2.symm ?_
    refine e_iload_n dX4_putAside_2 rfl ?_
    refine e_bipush (v := 51) dX4_putAside_3 rfl ?_
    refine e_icmp_ge 26 dX4_putAside_5 (by decide) (fun h => absurd h (j_more (N := 51) rfl rfl (by omega) (by omega))) (fun c5 => ?_)
    refine e_aload_n dX4_putAside_8 rfl ?_
    refine e_getR (o := 10) (b := 108) dX4_putAside_9 lkX4_37 rfl rfl (by decide) rfl ?_
    refine e_iload_n dX4_putAside_12 rfl ?_
    refine e_aload_n dX4_putAside_13 rfl ?_
    refine e_getR (o := 4) (b := 102) dX4_putAside_14 lkX4_19 rfl rfl (by decide) rfl ?_
    refine e_iload_n dX4_putAside_17 rfl ?_
    refine e_iald dX4_putAside_18 rfl k rfl (by omega) (by decide) ?_
    refine e_iast dX4_putAside_19 rfl k rfl (by omega) (by decide) (fun m3 hm3 => ?_)
    refine e_iinc (v := nI (k + 1)) (L' := [some (.ref 98), some (.int (nI (k + 1)))]) dX4_putAside_20 rfl (j_inc rfl) (by decide) (jnl_at (i := 0) rfl) rfl ?_
    refine e_goto 2 dX4_putAside_23 (by decide) ?_
    refine e_start rfl ?_ ih
    rw [hm3, hmm2, jup_s, jup_jup]
    exact congrArg (jup m 108) (cpy_s0' (by first | rfl | (rw [jup_n _ _ (by decide)]; first | rfl | (congr 1; omega)) | (simp only [Nat.zero_add]; done) | (simp only [Nat.zero_add, jup_n _ _ (show _ ≠ _ by decide)]; done) | (rw [Nat.zero_add])))

set_option maxHeartbeats 2000000 in
set_option maxRecDepth 20000 in
theorem s_takeBack (m : jM) : vX mX4_takeBack [.ref 98] m (fun m1 => jup m 102 (va_cpy (m 108) (m 102) 0 0 51) = m1) := by
  refine jX_of (L := [some (.ref 98), none]) 1 rfl rfl (by decide +kernel) rfl ?_
  refine e_iconst (v := 0) dX4_takeBack_0 rfl ?_
  refine e_istore_n (L' := [some (.ref 98), some (.int 0)]) dX4_takeBack_1 (by decide) (by decide) (jnl_at (i := 0) rfl) rfl ?_
  refine e_loop 2 51 (fun k => [some (.ref 98), some (.int (nI k))]) (fun k => jup m 102 (va_cpy (m 108) (m 102) 0 0 k)) 0 (Nat.zero_le _) rfl (by rw [cpy_0, jup_id]) ?_ ?_
  · show jE _ _ 2 [some (.ref 98), some (.int (nI 51))] [] (jup m 102 (va_cpy (m 108) (m 102) 0 0 51))
    obtain ⟨mm1, hmm1⟩ : ∃ y : jM, y = jup m 102 (va_cpy (m 108) (m 102) 0 0 51) := ⟨_, rfl⟩
    refine e_start rfl hmm1.symm ?_
    refine e_iload_n dX4_takeBack_2 rfl ?_
    refine e_bipush (v := 51) dX4_takeBack_3 rfl ?_
    refine e_icmp_ge 26 dX4_takeBack_5 (by decide) (fun c5 => ?_) (fun h => absurd (j_done rfl rfl) h)
    exact e_vret dX4_takeBack_26 rfl (hmm1.symm)
  · intro k hk ih
    show jE _ _ 2 [some (.ref 98), some (.int (nI k))] [] (jup m 102 (va_cpy (m 108) (m 102) 0 0 k))
    obtain ⟨mm2, hmm2⟩ : ∃ y : jM, y = jup m 102 (va_cpy (m 108) (m 102) 0 0 k) := ⟨_, rfl⟩
    refine e_start rfl hmm2.symm ?_
    refine e_iload_n dX4_takeBack_2 rfl ?_
    refine e_bipush (v := 51) dX4_takeBack_3 rfl ?_
    refine e_icmp_ge 26 dX4_takeBack_5 (by decide) (fun h => absurd h (j_more (N := 51) rfl rfl (by omega) (by omega))) (fun c5 => ?_)
    refine e_aload_n dX4_takeBack_8 rfl ?_
    refine e_getR (o := 4) (b := 102) dX4_takeBack_9 lkX4_19 rfl rfl (by decide) rfl ?_
    refine e_iload_n dX4_takeBack_12 rfl ?_
    refine e_aload_n dX4_takeBack_13 rfl ?_
    refine e_getR (o := 10) (b := 108) dX4_takeBack_14 lkX4_37 rfl rfl (by decide) rfl ?_
    refine e_iload_n dX4_takeBack_17 rfl ?_
    refine e_iald dX4_takeBack_18 rfl k rfl (by omega) (by decide) ?_
    refine e_iast dX4_takeBack_19 rfl k rfl (by omega) (by decide) (fun m3 hm3 => ?_)
    refine e_iinc (v := nI (k + 1)) (L' := [some (.ref 98), some (.int (nI (k + 1)))]) dX4_takeBack_20 rfl (j_inc rfl) (by decide) (jnl_at (i := 0) rfl) rfl ?_
    refine e_goto 2 dX4_takeBack_23 (by decide) ?_
    refine e_start rfl ?_ ih
    rw [hm3, hmm2, jup_s, jup_jup]
    exact congrArg (jup m 102) (cpy_s0' (by first | rfl | (rw [jup_n _ _ (by decide)]; first | rfl | (congr 1; omega)) | (simp only [Nat.zero_add]; done) | (simp only [Nat.zero_add, jup_n _ _ (show _ ≠ _ by decide)]; done) | (rw [Nat.zero_add])))
