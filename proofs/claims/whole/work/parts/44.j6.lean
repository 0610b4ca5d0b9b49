theorem lt_pred {k n : Int32} (hn : inN n 5) (h : k < n) : k ≤ n - 1 := by
  obtain ⟨a, ha, rfl⟩ := inN_of (by decide) hn
  rw [Int32.le_iff_toInt_le, nI_m1 (by omega)]
  rw [Int32.lt_iff_toInt_lt, nI_toInt (by omega)] at h
  omega

set_option maxHeartbeats 2000000 in
set_option maxRecDepth 20000 in
theorem s_Jsong_b (m : jM) (st : Nat → Int32) (V P : Nat) (hV : V ≤ 3) (hP : P ≤ 5) (hR : RK m 20 st V P) (x n k : Int32) (hb : ¬ (inN x V ∧ inN n 5 ∧ -1 ≤ k ∧ k ≤ n - 1)) : iX mX3_song [.ref 0, .int x, .int n, .int k] m (fun v m1 => v = -1000001 ∧ m = m1) := by
  refine jX_of (L := [some (.ref 0), some (.int x), some (.int n), some (.int k)]) 0 rfl rfl (by decide +kernel) rfl ?_
  refine e_iload_n dX3_song_0 rfl ?_
  refine e_aload_n dX3_song_1 rfl ?_
  refine e_getR (o := 20) (b := 20) dX3_song_2 lkX3_25 rfl rfl (by decide) rfl ?_
  refine e_getI dX3_song_5 lkX3_147 rfl rfl ?_
  rw [show m 20 2 = nI V from hR.vs]
  refine e_callSi (n := 2) mX3_isNot [.int x, .int (nI V)] dX3_song_8 ckX3_80 rfl (by decide +kernel) rfl rfl (Nat.le_of_ble_eq_true rfl) ⟨Nat.zero_le _, Nat.zero_le _⟩ (s_notN m x (nI V) V rfl) (fun v8 m1 hm1 => ?_)
  rcases hm1 with ⟨rfl, ⟨rfl, q⟩ | ⟨rfl, q⟩⟩
  · refine e_if_ne 32 dX3_song_11 (by decide) (fun c11 => ?_) (fun h => absurd h (by decide))
    refine e_ldc dX3_song_32 kkX3_84 ?_
    exact e_iret dX3_song_34 rfl (⟨rfl, rfl⟩)
  · have q := Classical.not_not.mp q
    refine e_if_ne 32 dX3_song_11 (by decide) (fun h => absurd h (by decide)) (fun c11 => ?_)
    refine e_iload_n dX3_song_14 rfl ?_
    refine e_iconst (v := 5) dX3_song_15 rfl ?_
    refine e_callSi (n := 2) mX3_isNot [.int n, .int 5] dX3_song_16 ckX3_80 rfl (by decide +kernel) rfl rfl (Nat.le_of_ble_eq_true rfl) ⟨Nat.zero_le _, Nat.zero_le _⟩ (s_notN m n 5 5 rfl) (fun v16 m2 hm2 => ?_)
    rcases hm2 with ⟨rfl, ⟨rfl, q1⟩ | ⟨rfl, q1⟩⟩
    · refine e_if_ne 32 dX3_song_19 (by decide) (fun c19 => ?_) (fun h => absurd h (by decide))
      refine e_ldc dX3_song_32 kkX3_84 ?_
      exact e_iret dX3_song_34 rfl (⟨rfl, rfl⟩)
    · have q1 := Classical.not_not.mp q1
      refine e_if_ne 32 dX3_song_19 (by decide) (fun h => absurd h (by decide)) (fun c19 => ?_)
      refine e_iload_n dX3_song_22 rfl ?_
      refine e_iconst (v := -1) dX3_song_23 rfl ?_
      refine e_icmp_lt 32 dX3_song_24 (by decide) (fun c24 => ?_) (fun c24 => ?_)
      · refine e_ldc dX3_song_32 kkX3_84 ?_
        exact e_iret dX3_song_34 rfl (⟨rfl, rfl⟩)
      · refine e_iload_n dX3_song_27 rfl ?_
        refine e_iload_n dX3_song_28 rfl ?_
        refine e_icmp_lt 35 dX3_song_29 (by decide) (fun h => False.elim (hb ⟨q, q1, Int32.not_lt.mp c24, lt_pred q1 h⟩)) (fun c29 => ?_)
        refine e_ldc dX3_song_32 kkX3_84 ?_
        exact e_iret dX3_song_34 rfl (⟨rfl, rfl⟩)

set_option maxHeartbeats 2000000 in
set_option maxRecDepth 20000 in
theorem s_JsongM (m : jM) (st : Nat → Int32) (V P : Nat) (hW : WK st V P) (hR : RK m 20 st V P) (h01 : m 20 0 = 1) (s : Nat) (hs : s < V) (n : Nat) (hn : n ≤ 4) : iX mX3_song [.ref 0, .int (nI s), .int (nI n), .int (-1)] m (fun v m1 => v = (soB st s n V P (8 ^ n)).1 ∧ SQ m m1 ∧ m1 0 17 = m 0 17) := by
  have hV := hW.v3
  have hP := hW.p5
  refine jX_of (L := [some (.ref 0), some (.int (nI s)), some (.int (nI n)), some (.int (-1))]) 0 rfl rfl (by decide +kernel) rfl ?_
  refine e_iload_n dX3_song_0 rfl ?_
  refine e_aload_n dX3_song_1 rfl ?_
  refine e_getR (o := 20) (b := 20) dX3_song_2 lkX3_25 rfl rfl (by decide) rfl ?_
  refine e_getI dX3_song_5 lkX3_147 rfl rfl ?_
  rw [show m 20 2 = nI V from hR.vs]
  refine e_callSi (n := 2) mX3_isNot [.int (nI s), .int (nI V)] dX3_song_8 ckX3_80 rfl (by decide +kernel) rfl rfl (Nat.le_of_ble_eq_true rfl) ⟨Nat.zero_le _, Nat.zero_le _⟩ (s_notN m (nI s) (nI V) V rfl) (fun v8 m1 hm1 => ?_)
  rcases hm1 with ⟨rfl, ⟨rfl, q⟩ | ⟨rfl, q⟩⟩
  · exact False.elim (q (inN_nI (by omega) hs))
  · have q := Classical.not_not.mp q
    refine e_if_ne 32 dX3_song_11 (by decide) (fun h => absurd h (by decide)) (fun c11 => ?_)
    refine e_iload_n dX3_song_14 rfl ?_
    refine e_iconst (v := 5) dX3_song_15 rfl ?_
    refine e_callSi (n := 2) mX3_isNot [.int (nI n), .int 5] dX3_song_16 ckX3_80 rfl (by decide +kernel) rfl rfl (Nat.le_of_ble_eq_true rfl) ⟨Nat.zero_le _, Nat.zero_le _⟩ (s_notN m (nI n) 5 5 rfl) (fun v16 m2 hm2 => ?_)
    rcases hm2 with ⟨rfl, ⟨rfl, q1⟩ | ⟨rfl, q1⟩⟩
    · exact False.elim (q1 (inN_nI (by decide) (by omega)))
    · have q1 := Classical.not_not.mp q1
      refine e_if_ne 32 dX3_song_19 (by decide) (fun h => absurd h (by decide)) (fun c19 => ?_)
      refine e_iload_n dX3_song_22 rfl ?_
      refine e_iconst (v := -1) dX3_song_23 rfl ?_
      refine e_icmp_lt 32 dX3_song_24 (by decide) (fun h => absurd h (by decide)) (fun c24 => ?_)
      refine e_iload_n dX3_song_27 rfl ?_
      refine e_iload_n dX3_song_28 rfl ?_
      refine e_icmp_lt 35 dX3_song_29 (by decide) (fun c29 => ?_) (fun h => absurd (Int32.lt_of_lt_of_le (by decide : (-1 : Int32) < 0) (nI_pos' (by omega))) h)
      refine e_aload_n dX3_song_35 rfl ?_
      refine e_iload_n dX3_song_36 rfl ?_
      refine e_iload_n dX3_song_37 rfl ?_
      refine e_callVv (n := 2) mX3_seekSong [.int (nI s), .int (nI n)] dX3_song_38 ckX3_214 rfl (by decide +kernel) rfl rfl rfl rfl (Nat.le_of_ble_eq_true rfl) ⟨Nat.zero_le _, Nat.zero_le _⟩ (s_seekS m st V P hW hR h01 s hs n hn) (fun mz hmz => ?_)
      obtain ⟨hqz, ez12, ez11, ez17⟩ := hmz
      refine e_iload_n dX3_song_41 rfl ?_
      refine e_if_ge 52 dX3_song_42 (by decide) (fun h => absurd h (by decide)) (fun c42 => ?_)
      refine e_aload_n dX3_song_45 rfl ?_
      refine e_getI dX3_song_46 lkX3_61 rfl rfl ?_
      rw [show mz 0 12 = (soB st s n V P (8 ^ n)).1 from ez12]
      refine e_goto 61 dX3_song_49 (by decide) ?_
      exact e_iret dX3_song_61 rfl (⟨rfl, hqz, ez17⟩)

set_option maxHeartbeats 2000000 in
set_option maxRecDepth 20000 in
theorem s_JsongK (m : jM) (st : Nat → Int32) (V P : Nat) (hW : WK st V P) (hR : RK m 20 st V P) (h01 : m 20 0 = 1) (s : Nat) (hs : s < V) (n : Nat) (hn : n ≤ 4) (j : Nat) (hj : j < n) : iX mX3_song [.ref 0, .int (nI s), .int (nI n), .int (nI j)] m (fun v m1 => v = nI (dgS n (soB st s n V P (8 ^ n)).2.2 j) ∧ SQ m m1 ∧ m1 0 17 = m 0 17) := by
  have hV := hW.v3
  have hP := hW.p5
  refine jX_of (L := [some (.ref 0), some (.int (nI s)), some (.int (nI n)), some (.int (nI j))]) 0 rfl rfl (by decide +kernel) rfl ?_
  refine e_iload_n dX3_song_0 rfl ?_
  refine e_aload_n dX3_song_1 rfl ?_
  refine e_getR (o := 20) (b := 20) dX3_song_2 lkX3_25 rfl rfl (by decide) rfl ?_
  refine e_getI dX3_song_5 lkX3_147 rfl rfl ?_
  rw [show m 20 2 = nI V from hR.vs]
  refine e_callSi (n := 2) mX3_isNot [.int (nI s), .int (nI V)] dX3_song_8 ckX3_80 rfl (by decide +kernel) rfl rfl (Nat.le_of_ble_eq_true rfl) ⟨Nat.zero_le _, Nat.zero_le _⟩ (s_notN m (nI s) (nI V) V rfl) (fun v8 m1 hm1 => ?_)
  rcases hm1 with ⟨rfl, ⟨rfl, q⟩ | ⟨rfl, q⟩⟩
  · exact False.elim (q (inN_nI (by omega) hs))
  · have q := Classical.not_not.mp q
    refine e_if_ne 32 dX3_song_11 (by decide) (fun h => absurd h (by decide)) (fun c11 => ?_)
    refine e_iload_n dX3_song_14 rfl ?_
    refine e_iconst (v := 5) dX3_song_15 rfl ?_
    refine e_callSi (n := 2) mX3_isNot [.int (nI n), .int 5] dX3_song_16 ckX3_80 rfl (by decide +kernel) rfl rfl (Nat.le_of_ble_eq_true rfl) ⟨Nat.zero_le _, Nat.zero_le _⟩ (s_notN m (nI n) 5 5 rfl) (fun v16 m2 hm2 => ?_)
    rcases hm2 with ⟨rfl, ⟨rfl, q1⟩ | ⟨rfl, q1⟩⟩
    · exact False.elim (q1 (inN_nI (by decide) (by omega)))
    · have q1 := Classical.not_not.mp q1
      refine e_if_ne 32 dX3_song_19 (by decide) (fun h => absurd h (by decide)) (fun c19 => ?_)
      refine e_iload_n dX3_song_22 rfl ?_
      refine e_iconst (v := -1) dX3_song_23 rfl ?_
      refine e_icmp_lt 32 dX3_song_24 (by decide) (fun h => absurd h (Int32.not_lt.mpr (Int32.le_trans (by decide : (-1 : Int32) ≤ 0) (nI_pos' (by omega))))) (fun c24 => ?_)
      refine e_iload_n dX3_song_27 rfl ?_
      refine e_iload_n dX3_song_28 rfl ?_
      refine e_icmp_lt 35 dX3_song_29 (by decide) (fun c29 => ?_) (fun h => absurd ((j_lt (by omega) (by omega)).mpr hj) h)
      refine e_aload_n dX3_song_35 rfl ?_
      refine e_iload_n dX3_song_36 rfl ?_
      refine e_iload_n dX3_song_37 rfl ?_
      refine e_callVv (n := 2) mX3_seekSong [.int (nI s), .int (nI n)] dX3_song_38 ckX3_214 rfl (by decide +kernel) rfl rfl rfl rfl (Nat.le_of_ble_eq_true rfl) ⟨Nat.zero_le _, Nat.zero_le _⟩ (s_seekS m st V P hW hR h01 s hs n hn) (fun mz hmz => ?_)
      obtain ⟨hqz, ez12, ez11, ez17⟩ := hmz
      refine e_iload_n dX3_song_41 rfl ?_
      refine e_if_ge 52 dX3_song_42 (by decide) (fun c42 => ?_) (fun h => absurd (nI_pos' (by omega)) h)
      refine e_aload_n dX3_song_52 rfl ?_
      refine e_getI dX3_song_53 lkX3_58 rfl rfl ?_
      rw [show mz 0 11 = nI (soB st s n V P (8 ^ n)).2.2 from ez11]
      refine e_iload_n dX3_song_56 rfl ?_
      refine e_iload_n dX3_song_57 rfl ?_
      have hsl := (soB_lt (st := st) (s := s) (n := n) (V := V) (P := P) (8 ^ n)).2
      have h8 : 0 < 8 ^ n := Nat.pow_pos (by decide)
      refine e_callSi (n := 3) mX3_noteOf [.int (nI (soB st s n V P (8 ^ n)).2.2), .int (nI n), .int (nI j)] dX3_song_58 ckX3_217 rfl (by decide +kernel) rfl rfl (Nat.le_of_ble_eq_true rfl) ⟨Nat.zero_le _, Nat.zero_le _⟩ (s_noteOf mz n (soB st s n V P (8 ^ n)).2.2 j hn (by omega) hj) (fun v58 m4 hm4 => ?_)
      obtain ⟨rfl, rfl⟩ := hm4
      exact e_iret dX3_song_61 rfl (⟨rfl, hqz, ez17⟩)
