/-- x is one of n numbers from 0 on -/
def inN (x : Int32) (n : Nat) : Prop := 0 ≤ x ∧ x < nI n
theorem inN_hi {x hi : Int32} {n : Nat} (hn : n < 2 ^ 31) (h : hi.toInt + 1 = (n : Int)) : (0 ≤ x ∧ x ≤ hi) ↔ inN x n := by
  unfold inN
  rw [Int32.le_iff_toInt_le, Int32.le_iff_toInt_le, Int32.lt_iff_toInt_lt, nI_toInt hn]
  constructor
  · rintro ⟨a, b⟩; exact ⟨a, by omega⟩
  · rintro ⟨a, b⟩; exact ⟨a, by omega⟩
theorem nI_m1 {n : Nat} (hn : n < 2 ^ 31) : (nI n - 1).toInt = (n : Int) - 1 := by
  cases n with
  | zero => decide
  | succ k => rw [nI_pred, nI_toInt (by omega)]; omega
theorem inN_pred {x : Int32} {n : Nat} (hn : n < 2 ^ 31) : (0 ≤ x ∧ x ≤ nI n - 1) ↔ inN x n := inN_hi hn (by rw [nI_m1 hn]; omega)
theorem inN_of {x : Int32} {n : Nat} (hn : n < 2 ^ 31) (h : inN x n) : ∃ k : Nat, k < n ∧ x = nI k := j_small (Int32.not_lt.mpr h.1) hn h.2
theorem inN_nI {k n : Nat} (hn : n < 2 ^ 31) (h : k < n) : inN (nI k) n := ⟨nI_pos' (by omega), (j_lt (by omega) hn).mpr h⟩
theorem inN_not {x : Int32} {n : Nat} : ¬ inN x n ↔ x < 0 ∨ nI n ≤ x := by
  unfold inN
  rw [Decidable.not_and_iff_or_not, Int32.not_le, Int32.not_lt]
theorem s_inN (x hi : Int32) (n : Nat) (hn : n < 2 ^ 31) (h : hi.toInt + 1 = (n : Int)) (m : jM) : iX mX4_in [.long x.toInt64, .long (0 : Int32).toInt64, .long hi.toInt64] m (fun v m1 => m = m1 ∧ isB v (inN x n)) := by
  have h1 := s_in32 x 0 hi m
  rw [inN_hi hn h] at h1
  exact h1
theorem s_rowN (x : Int32) (m : jM) : iX mX4_isRow [.int x] m (fun v m1 => m = m1 ∧ isB v (inN x 8)) := by
  have h1 := s_isRow x m
  rw [inN_hi (n := 8) (by decide) (by decide)] at h1
  exact h1
theorem s_panN (x : Int32) (m : jM) (P : Nat) (hP : P ≤ 5) (h2 : m 102 2 = nI P) : iX mX4_isPan [.ref 98, .int x] m (fun v m1 => m = m1 ∧ isB v (inN x P)) := by
  have h1 := s_isPan x m
  rw [h2, inN_pred (by omega)] at h1
  exact h1
theorem s_sngN (x : Int32) (m : jM) (V : Nat) (hV : V ≤ 3) (h2 : m 102 1 = nI V) : iX mX4_isSinger [.ref 98, .int x] m (fun v m1 => m = m1 ∧ isB v (inN x V)) := by
  have h1 := s_isSinger x m
  rw [h2, inN_pred (by omega)] at h1
  exact h1
theorem jrefl {α : Sort _} {P : Prop} {x : α} (h : P) : P ∧ x = x := ⟨h, rfl⟩
/-- what a pan, a singer is asked for -/
def panV (st : Nat → Int32) (p : Nat) (w : Int32) : Int32 := if w = 0 then st (21 + p) else if w = 1 then st (26 + p) else if w = 2 then st (31 + p) else if w = 3 then st (36 + p) else if w = 4 then st (41 + p) else if w = 5 then st (46 + p) else -1000001
def sngV (st : Nat → Int32) (p : Nat) (w : Int32) : Int32 := if w = 0 then st (4 + p) else if w = 1 then st (7 + p) else if w = 2 then st (10 + p) else if w = 3 then st (13 + p) else -1000001
theorem j_out6 {x : Int32} (h0 : ¬ x = 0) (h1 : ¬ x = 1) (h2 : ¬ x = 2) (h3 : ¬ x = 3) (h4 : ¬ x = 4) (h5 : ¬ x = 5) : x.toInt < 0 ∨ 5 < x.toInt := by
  have := lv_neT h0 (a := 0) rfl
  have := lv_neT h1 (a := 1) rfl
  have := lv_neT h2 (a := 2) rfl
  have := lv_neT h3 (a := 3) rfl
  have := lv_neT h4 (a := 4) rfl
  have := lv_neT h5 (a := 5) rfl
  omega
theorem j_out4 {x : Int32} (h0 : ¬ x = 0) (h1 : ¬ x = 1) (h2 : ¬ x = 2) (h3 : ¬ x = 3) : x.toInt < 0 ∨ 3 < x.toInt := by
  have := lv_neT h0 (a := 0) rfl
  have := lv_neT h1 (a := 1) rfl
  have := lv_neT h2 (a := 2) rfl
  have := lv_neT h3 (a := 3) rfl
  omega
theorem j_out8 {x : Int32} (h0 : ¬ x = 0) (h1 : ¬ x = 1) (h2 : ¬ x = 2) (h3 : ¬ x = 3) (h4 : ¬ x = 4) (h5 : ¬ x = 5) (h6 : ¬ x = 6) (h7 : ¬ x = 7) : x.toInt < 0 ∨ 7 < x.toInt := by
  have := j_out6 h0 h1 h2 h3 h4 h5
  have := lv_neT h6 (a := 6) rfl
  have := lv_neT h7 (a := 7) rfl
  omega
/-- is one kind another -/
def kindP (k a : Int32) : Prop := a = 0 ∨ k = a ∨ (a = 1 ∧ k < 4) ∨ (a = 4 ∧ k = 5)
set_option maxHeartbeats 2000000 in
set_option maxRecDepth 20000 in
theorem s_Dundo0 (m : jM) (hc : m 98 18 = 0) : iX mX4_undo [.ref 98] m (fun v m1 => v = -1000002 ∧ m = m1) := by
  refine jX_of (L := [some (.ref 98), none]) 1 rfl rfl (by decide +kernel) rfl ?_
  refine e_aload_n dX4_undo_0 rfl ?_
  refine e_getI dX4_undo_1 lkX4_146 rfl rfl ?_
  rw [show m 98 18 = 0 from hc]
  refine e_if_ne 10 dX4_undo_4 (by decide) (fun h => absurd rfl h) (fun c4 => ?_)
  refine e_ldc dX4_undo_7 kkX4_157 ?_
  exact e_iret dX4_undo_9 rfl (⟨rfl, rfl⟩)

set_option maxHeartbeats 2000000 in
set_option maxRecDepth 20000 in
theorem s_Dundo (m : jM) (n : Nat) (hn : n < 24) (hc : m 98 18 = nI (n + 1)) : iX mX4_undo [.ref 98] m (fun v m1 => v = nI n ∧ jup (jst m 98 18 (nI n)) 102 (va_cpy (m 107) (m 102) (51 * n) 0 51) = m1) := by
  refine jX_of (L := [some (.ref 98), none]) 1 rfl rfl (by decide +kernel) rfl ?_
  refine e_aload_n dX4_undo_0 rfl ?_
  refine e_getI dX4_undo_1 lkX4_146 rfl rfl ?_
  rw [show m 98 18 = nI (n + 1) from hc]
  refine e_if_ne 10 dX4_undo_4 (by decide) (fun c4 => ?_) (fun h => absurd h (fun q => nI_ne0 (by omega) (by omega) q))
  refine e_aload_n dX4_undo_10 rfl ?_
  refine e_dup dX4_undo_11 rfl ?_
  refine e_getI dX4_undo_12 lkX4_146 rfl rfl ?_
  rw [show m 98 18 = nI (n + 1) from hc]
  refine e_iconst (v := 1) dX4_undo_15 rfl ?_
  refine e_isub dX4_undo_16 ?_
  rw [show (nI (n + 1)) - 1 = nI n from nI_pred n]
  refine e_putI dX4_undo_17 lkX4_146 rfl rfl fwX4_18 (Or.inl rfl) (fun ma hma => ?_)
  refine e_iconst (v := 0) dX4_undo_20 rfl ?_
  refine e_istore_n (L' := [some (.ref 98), some (.int 0)]) dX4_undo_21 (Nat.le_of_ble_eq_true rfl) (Nat.le_of_ble_eq_true rfl) (jnl_at (i := 0) rfl) rfl ?_
  refine e_loop 22 51 (fun k => [some (.ref 98), some (.int (nI k))]) (fun k => jup ma 102 (va_cpy (ma 107) (ma 102) (51 * n) 0 k)) 0 (Nat.zero_le _) rfl (by rw [cpy_0, jup_id]) ?_ ?_
  · show jE _ _ 22 [some (.ref 98), some (.int (nI 51))] [] (jup ma 102 (va_cpy (ma 107) (ma 102) (51 * n) 0 51))
    obtain ⟨me, hme⟩ : ∃ y : jM, y = jup ma 102 (va_cpy (ma 107) (ma 102) (51 * n) 0 51) := ⟨_, rfl⟩
    refine e_start rfl hme.symm ?_
    refine e_iload_n dX4_undo_22 rfl ?_
    refine e_bipush (v := 51) dX4_undo_23 rfl ?_
    refine e_icmp_ge 54 dX4_undo_25 (by decide) (fun c25 => ?_) (fun h => absurd (j_done rfl rfl) h)
    refine e_aload_n dX4_undo_54 rfl ?_
    refine e_getI dX4_undo_55 lkX4_146 rfl rfl ?_
    rw [show me 98 18 = nI n from by rw [hme, jup_n _ _ (by decide), hma, jup_s, upd_s]]
    exact e_iret dX4_undo_58 rfl (⟨rfl, by rw [hme, hma, jup_n _ _ (by decide), jup_n _ _ (by decide)]⟩)
  · intro k hk ih
    show jE _ _ 22 [some (.ref 98), some (.int (nI k))] [] (jup ma 102 (va_cpy (ma 107) (ma 102) (51 * n) 0 k))
    obtain ⟨mb, hmb⟩ : ∃ y : jM, y = jup ma 102 (va_cpy (ma 107) (ma 102) (51 * n) 0 k) := ⟨_, rfl⟩
    refine e_start rfl hmb.symm ?_
    refine e_iload_n dX4_undo_22 rfl ?_
    refine e_bipush (v := 51) dX4_undo_23 rfl ?_
    refine e_icmp_ge 54 dX4_undo_25 (by decide) (fun h => absurd h (j_more (N := 51) rfl rfl (by omega) (by omega))) (fun c25 => ?_)
    refine e_aload_n dX4_undo_28 rfl ?_
    refine e_getR (o := 4) (b := 102) dX4_undo_29 lkX4_19 rfl rfl (by decide) rfl ?_
    refine e_iload_n dX4_undo_32 rfl ?_
    refine e_aload_n dX4_undo_33 rfl ?_
    refine e_getR (o := 9) (b := 107) dX4_undo_34 lkX4_34 rfl rfl (by decide) rfl ?_
    refine e_bipush (v := 51) dX4_undo_37 rfl ?_
    refine e_aload_n dX4_undo_39 rfl ?_
    refine e_getI dX4_undo_40 lkX4_146 rfl rfl ?_
    rw [show mb 98 18 = nI n from by rw [hmb, jup_n _ _ (by decide), hma, jup_s, upd_s]]
    refine e_imul dX4_undo_43 ?_
    refine e_iload_n dX4_undo_44 rfl ?_
    refine e_iadd dX4_undo_45 ?_
    refine e_iald dX4_undo_46 rfl ((51 * n) + k) (j_add (j_mul rfl rfl) rfl) (by omega) (by decide) ?_
    refine e_iast dX4_undo_47 rfl k rfl (by omega) (by decide) (fun m2 hm2 => ?_)
    refine e_iinc (v := nI (k + 1)) (L' := [some (.ref 98), some (.int (nI (k + 1)))]) dX4_undo_48 rfl (j_inc rfl) (by decide) (jnl_at (i := 0) rfl) rfl ?_
    refine e_goto 22 dX4_undo_51 (by decide) ?_
    refine e_start rfl ?_ ih
    rw [hm2, hmb, jup_s, jup_jup, jup_n _ _ (by decide)]
    exact congrArg (jup ma 102) (cpy_s0' rfl)

set_option maxHeartbeats 2000000 in
set_option maxRecDepth 20000 in
theorem s_Dpan_b (m : jM) (x w : Int32) (P : Nat) (hP : P ≤ 5) (h2 : m 102 2 = nI P) (hb : ¬ inN x P) : iX mX4_pan [.ref 98, .int x, .int w] m (fun v m1 => v = -1000001 ∧ m = m1) := by
  refine jX_of (L := [some (.ref 98), some (.int x), some (.int w)]) 0 rfl rfl (by decide +kernel) rfl ?_
  refine e_aload_n dX4_pan_0 rfl ?_
  refine e_iload_n dX4_pan_1 rfl ?_
  refine e_callVi (n := 1) mX4_isPan [.int x] dX4_pan_2 ckX4_171 rfl (by decide +kernel) rfl rfl rfl rfl (by decide) ⟨Nat.zero_le _, Nat.zero_le _⟩ (s_panN x m P hP h2) (fun v2 m1 hm1 => ?_)
  rcases hm1 with ⟨rfl, ⟨rfl, q⟩ | ⟨rfl, q⟩⟩
  · exact False.elim (hb q)
  · refine e_if_ne 11 dX4_pan_5 (by decide) (fun h => absurd h (by decide)) (fun c5 => ?_)
    refine e_ldc dX4_pan_8 kkX4_70 ?_
    exact e_iret dX4_pan_10 rfl (⟨rfl, rfl⟩)

set_option maxHeartbeats 2000000 in
set_option maxRecDepth 20000 in
theorem s_Dpan (m : jM) (p : Nat) (w : Int32) (P : Nat) (hP : P ≤ 5) (h2 : m 102 2 = nI P) (hp : p < P) : iX mX4_pan [.ref 98, .int (nI p), .int w] m (fun v m1 => v = panV (m 102) p w ∧ m = m1) := by
  refine jX_of (L := [some (.ref 98), some (.int (nI p)), some (.int w)]) 0 rfl rfl (by decide +kernel) rfl ?_
  refine e_aload_n dX4_pan_0 rfl ?_
  refine e_iload_n dX4_pan_1 rfl ?_
  refine e_callVi (n := 1) mX4_isPan [.int (nI p)] dX4_pan_2 ckX4_171 rfl (by decide +kernel) rfl rfl rfl rfl (by decide) ⟨Nat.zero_le _, Nat.zero_le _⟩ (s_panN (nI p) m P hP h2) (fun v2 m1 hm1 => ?_)
  rcases hm1 with ⟨rfl, ⟨rfl, q⟩ | ⟨rfl, q⟩⟩
  · refine e_if_ne 11 dX4_pan_5 (by decide) (fun c5 => ?_) (fun h => absurd h (by decide))
    refine e_iload_n dX4_pan_11 rfl ?_
    by_cases z12_0 : w = 0
    · subst z12_0
      refine e_tsIn 52 dX4_pan_12 (by decide) (by decide) rfl (by decide) ?_
      refine e_aload_n dX4_pan_52 rfl ?_
      refine e_getR (o := 4) (b := 102) dX4_pan_53 lkX4_19 rfl rfl (by decide) rfl ?_
      refine e_bipush (v := 21) dX4_pan_56 rfl ?_
      refine e_iload_n dX4_pan_58 rfl ?_
      refine e_iadd dX4_pan_59 ?_
      refine e_iald dX4_pan_60 rfl (21 + p) (j_add rfl rfl) (by omega) (by decide) ?_
      exact e_iret dX4_pan_61 rfl (⟨by unfold panV; simp_all, rfl⟩)
    by_cases z12_1 : w = 1
    · subst z12_1
      refine e_tsIn 62 dX4_pan_12 (by decide) (by decide) rfl (by decide) ?_
      refine e_aload_n dX4_pan_62 rfl ?_
      refine e_getR (o := 4) (b := 102) dX4_pan_63 lkX4_19 rfl rfl (by decide) rfl ?_
      refine e_bipush (v := 26) dX4_pan_66 rfl ?_
      refine e_iload_n dX4_pan_68 rfl ?_
      refine e_iadd dX4_pan_69 ?_
      refine e_iald dX4_pan_70 rfl (26 + p) (j_add rfl rfl) (by omega) (by decide) ?_
      exact e_iret dX4_pan_71 rfl (⟨by unfold panV; simp_all, rfl⟩)
    by_cases z12_2 : w = 2
    · subst z12_2
      refine e_tsIn 72 dX4_pan_12 (by decide) (by decide) rfl (by decide) ?_
      refine e_aload_n dX4_pan_72 rfl ?_
      refine e_getR (o := 4) (b := 102) dX4_pan_73 lkX4_19 rfl rfl (by decide) rfl ?_
      refine e_bipush (v := 31) dX4_pan_76 rfl ?_
      refine e_iload_n dX4_pan_78 rfl ?_
      refine e_iadd dX4_pan_79 ?_
      refine e_iald dX4_pan_80 rfl (31 + p) (j_add rfl rfl) (by omega) (by decide) ?_
      exact e_iret dX4_pan_81 rfl (⟨by unfold panV; simp_all, rfl⟩)
    by_cases z12_3 : w = 3
    · subst z12_3
      refine e_tsIn 82 dX4_pan_12 (by decide) (by decide) rfl (by decide) ?_
      refine e_aload_n dX4_pan_82 rfl ?_
      refine e_getR (o := 4) (b := 102) dX4_pan_83 lkX4_19 rfl rfl (by decide) rfl ?_
      refine e_bipush (v := 36) dX4_pan_86 rfl ?_
      refine e_iload_n dX4_pan_88 rfl ?_
      refine e_iadd dX4_pan_89 ?_
      refine e_iald dX4_pan_90 rfl (36 + p) (j_add rfl rfl) (by omega) (by decide) ?_
      exact e_iret dX4_pan_91 rfl (⟨by unfold panV; simp_all, rfl⟩)
    by_cases z12_4 : w = 4
    · subst z12_4
      refine e_tsIn 92 dX4_pan_12 (by decide) (by decide) rfl (by decide) ?_
      refine e_aload_n dX4_pan_92 rfl ?_
      refine e_getR (o := 4) (b := 102) dX4_pan_93 lkX4_19 rfl rfl (by decide) rfl ?_
      refine e_bipush (v := 41) dX4_pan_96 rfl ?_
      refine e_iload_n dX4_pan_98 rfl ?_
      refine e_iadd dX4_pan_99 ?_
      refine e_iald dX4_pan_100 rfl (41 + p) (j_add rfl rfl) (by omega) (by decide) ?_
      exact e_iret dX4_pan_101 rfl (⟨by unfold panV; simp_all, rfl⟩)
    by_cases z12_5 : w = 5
    · subst z12_5
      refine e_tsIn 102 dX4_pan_12 (by decide) (by decide) rfl (by decide) ?_
      refine e_aload_n dX4_pan_102 rfl ?_
      refine e_getR (o := 4) (b := 102) dX4_pan_103 lkX4_19 rfl rfl (by decide) rfl ?_
      refine e_bipush (v := 46) dX4_pan_106 rfl ?_
      refine e_iload_n dX4_pan_108 rfl ?_
      refine e_iadd dX4_pan_109 ?_
      refine e_iald dX4_pan_110 rfl (46 + p) (j_add rfl rfl) (by omega) (by decide) ?_
      exact e_iret dX4_pan_111 rfl (⟨by unfold panV; simp_all, rfl⟩)
    refine e_tsOut 112 dX4_pan_12 (j_out6 z12_0 z12_1 z12_2 z12_3 z12_4 z12_5) (by decide) ?_
    refine e_ldc dX4_pan_112 kkX4_70 ?_
    exact e_iret dX4_pan_114 rfl (⟨by unfold panV; simp_all, rfl⟩)
  · exact False.elim (q (inN_nI (by omega) hp))

set_option maxHeartbeats 2000000 in
set_option maxRecDepth 20000 in
theorem s_Dsinger_b (m : jM) (x w : Int32) (V : Nat) (hV : V ≤ 3) (h1 : m 102 1 = nI V) (hb : ¬ inN x V) : iX mX4_singer [.ref 98, .int x, .int w] m (fun v m1 => v = -1000001 ∧ m = m1) := by
  refine jX_of (L := [some (.ref 98), some (.int x), some (.int w)]) 0 rfl rfl (by decide +kernel) rfl ?_
  refine e_aload_n dX4_singer_0 rfl ?_
  refine e_iload_n dX4_singer_1 rfl ?_
  refine e_callVi (n := 1) mX4_isSinger [.int x] dX4_singer_2 ckX4_174 rfl (by decide +kernel) rfl rfl rfl rfl (by decide) ⟨Nat.zero_le _, Nat.zero_le _⟩ (s_sngN x m V hV h1) (fun v2 m1 hm1 => ?_)
  rcases hm1 with ⟨rfl, ⟨rfl, q⟩ | ⟨rfl, q⟩⟩
  · exact False.elim (hb q)
  · refine e_if_ne 11 dX4_singer_5 (by decide) (fun h => absurd h (by decide)) (fun c5 => ?_)
    refine e_ldc dX4_singer_8 kkX4_70 ?_
    exact e_iret dX4_singer_10 rfl (⟨rfl, rfl⟩)

set_option maxHeartbeats 2000000 in
set_option maxRecDepth 20000 in
theorem s_Dsinger (m : jM) (p : Nat) (w : Int32) (V : Nat) (hV : V ≤ 3) (h1 : m 102 1 = nI V) (hp : p < V) : iX mX4_singer [.ref 98, .int (nI p), .int w] m (fun v m1 => v = sngV (m 102) p w ∧ m = m1) := by
  refine jX_of (L := [some (.ref 98), some (.int (nI p)), some (.int w)]) 0 rfl rfl (by decide +kernel) rfl ?_
  refine e_aload_n dX4_singer_0 rfl ?_
  refine e_iload_n dX4_singer_1 rfl ?_
  refine e_callVi (n := 1) mX4_isSinger [.int (nI p)] dX4_singer_2 ckX4_174 rfl (by decide +kernel) rfl rfl rfl rfl (by decide) ⟨Nat.zero_le _, Nat.zero_le _⟩ (s_sngN (nI p) m V hV h1) (fun v2 m1 hm1 => ?_)
  rcases hm1 with ⟨rfl, ⟨rfl, q⟩ | ⟨rfl, q⟩⟩
  · refine e_if_ne 11 dX4_singer_5 (by decide) (fun c5 => ?_) (fun h => absurd h (by decide))
    refine e_iload_n dX4_singer_11 rfl ?_
    by_cases z12_0 : w = 0
    · subst z12_0
      refine e_tsIn 44 dX4_singer_12 (by decide) (by decide) rfl (by decide) ?_
      refine e_aload_n dX4_singer_44 rfl ?_
      refine e_getR (o := 4) (b := 102) dX4_singer_45 lkX4_19 rfl rfl (by decide) rfl ?_
      refine e_iconst (v := 4) dX4_singer_48 rfl ?_
      refine e_iload_n dX4_singer_49 rfl ?_
      refine e_iadd dX4_singer_50 ?_
      refine e_iald dX4_singer_51 rfl (4 + p) (j_add rfl rfl) (by omega) (by decide) ?_
      exact e_iret dX4_singer_52 rfl (⟨by unfold sngV; simp_all, rfl⟩)
    by_cases z12_1 : w = 1
    · subst z12_1
      refine e_tsIn 53 dX4_singer_12 (by decide) (by decide) rfl (by decide) ?_
      refine e_aload_n dX4_singer_53 rfl ?_
      refine e_getR (o := 4) (b := 102) dX4_singer_54 lkX4_19 rfl rfl (by decide) rfl ?_
      refine e_bipush (v := 7) dX4_singer_57 rfl ?_
      refine e_iload_n dX4_singer_59 rfl ?_
      refine e_iadd dX4_singer_60 ?_
      refine e_iald dX4_singer_61 rfl (7 + p) (j_add rfl rfl) (by omega) (by decide) ?_
      exact e_iret dX4_singer_62 rfl (⟨by unfold sngV; simp_all, rfl⟩)
    by_cases z12_2 : w = 2
    · subst z12_2
      refine e_tsIn 63 dX4_singer_12 (by decide) (by decide) rfl (by decide) ?_
      refine e_aload_n dX4_singer_63 rfl ?_
      refine e_getR (o := 4) (b := 102) dX4_singer_64 lkX4_19 rfl rfl (by decide) rfl ?_
      refine e_bipush (v := 10) dX4_singer_67 rfl ?_
      refine e_iload_n dX4_singer_69 rfl ?_
      refine e_iadd dX4_singer_70 ?_
      refine e_iald dX4_singer_71 rfl (10 + p) (j_add rfl rfl) (by omega) (by decide) ?_
      exact e_iret dX4_singer_72 rfl (⟨by unfold sngV; simp_all, rfl⟩)
    by_cases z12_3 : w = 3
    · subst z12_3
      refine e_tsIn 73 dX4_singer_12 (by decide) (by decide) rfl (by decide) ?_
      refine e_aload_n dX4_singer_73 rfl ?_
      refine e_getR (o := 4) (b := 102) dX4_singer_74 lkX4_19 rfl rfl (by decide) rfl ?_
      refine e_bipush (v := 13) dX4_singer_77 rfl ?_
      refine e_iload_n dX4_singer_79 rfl ?_
      refine e_iadd dX4_singer_80 ?_
      refine e_iald dX4_singer_81 rfl (13 + p) (j_add rfl rfl) (by omega) (by decide) ?_
      exact e_iret dX4_singer_82 rfl (⟨by unfold sngV; simp_all, rfl⟩)
    refine e_tsOut 83 dX4_singer_12 (j_out4 z12_0 z12_1 z12_2 z12_3) (by decide) ?_
    refine e_ldc dX4_singer_83 kkX4_70 ?_
    exact e_iret dX4_singer_85 rfl (⟨by unfold sngV; simp_all, rfl⟩)
  · exact False.elim (q (inN_nI (by omega) hp))

set_option maxHeartbeats 2000000 in
set_option maxRecDepth 20000 in
theorem s_Dimage_b (m : jM) (x : Int32) (hb : ¬ inN x 2) : iX mX4_image [.ref 98, .int x] m (fun v m1 => v = -1000001 ∧ m = m1) := by
  refine jX_of (L := [some (.ref 98), some (.int x), none]) 1 rfl rfl (by decide +kernel) rfl ?_
  refine e_iload_n dX4_image_0 rfl ?_
  refine e_i2l dX4_image_1 ?_
  refine e_lconst (v := 0) dX4_image_2 rfl ?_
  refine e_lconst (v := 1) dX4_image_3 rfl ?_
  refine e_callSi (n := 3) mX4_in [.long x.toInt64, .long 0, .long 1] dX4_image_4 ckX4_60 rfl (by decide +kernel) rfl rfl (by decide) ⟨Nat.zero_le _, Nat.zero_le _⟩ (s_inN x 1 2 (by decide) (by decide) m) (fun v4 m1 hm1 => ?_)
  rcases hm1 with ⟨rfl, ⟨rfl, q⟩ | ⟨rfl, q⟩⟩
  · exact False.elim (hb q)
  · refine e_if_ne 13 dX4_image_7 (by decide) (fun h => absurd h (by decide)) (fun c7 => ?_)
    refine e_ldc dX4_image_10 kkX4_70 ?_
    exact e_iret dX4_image_12 rfl (⟨rfl, rfl⟩)

set_option maxHeartbeats 2000000 in
set_option maxRecDepth 20000 in
theorem s_Dimage_s (m : jM) (x : Int32) (hb : inN x 2) (h0 : m 98 4 = 0) : iX mX4_image [.ref 98, .int x] m (fun v m1 => v = -1000002 ∧ m = m1) := by
  refine jX_of (L := [some (.ref 98), some (.int x), none]) 1 rfl rfl (by decide +kernel) rfl ?_
  refine e_iload_n dX4_image_0 rfl ?_
  refine e_i2l dX4_image_1 ?_
  refine e_lconst (v := 0) dX4_image_2 rfl ?_
  refine e_lconst (v := 1) dX4_image_3 rfl ?_
  refine e_callSi (n := 3) mX4_in [.long x.toInt64, .long 0, .long 1] dX4_image_4 ckX4_60 rfl (by decide +kernel) rfl rfl (by decide) ⟨Nat.zero_le _, Nat.zero_le _⟩ (s_inN x 1 2 (by decide) (by decide) m) (fun v4 m1 hm1 => ?_)
  rcases hm1 with ⟨rfl, ⟨rfl, q⟩ | ⟨rfl, q⟩⟩
  · refine e_if_ne 13 dX4_image_7 (by decide) (fun c7 => ?_) (fun h => absurd h (by decide))
    refine e_aload_n dX4_image_13 rfl ?_
    refine e_getI dX4_image_14 lkX4_142 rfl rfl ?_
    rw [show m 98 4 = 0 from h0]
    refine e_if_ne 23 dX4_image_17 (by decide) (fun h => absurd rfl h) (fun c17 => ?_)
    refine e_ldc dX4_image_20 kkX4_157 ?_
    exact e_iret dX4_image_22 rfl (⟨rfl, rfl⟩)
  · exact False.elim (q hb)

set_option maxHeartbeats 2000000 in
set_option maxRecDepth 20000 in
theorem s_Dimage (m : jM) (c : Nat) (hc : c < 2) (h0 : m 98 4 = 1) : iX mX4_image [.ref 98, .int (nI c)] m (fun v m1 => v = 1 ∧ jst (jup m 111 (va_cpy (m 102) (m 111) 0 (51 * c) 51)) 110 c 1 = m1) := by
  refine jX_of (L := [some (.ref 98), some (.int (nI c)), none]) 1 rfl rfl (by decide +kernel) rfl ?_
  refine e_iload_n dX4_image_0 rfl ?_
  refine e_i2l dX4_image_1 ?_
  refine e_lconst (v := 0) dX4_image_2 rfl ?_
  refine e_lconst (v := 1) dX4_image_3 rfl ?_
  refine e_callSi (n := 3) mX4_in [.long ((nI c).toInt64), .long 0, .long 1] dX4_image_4 ckX4_60 rfl (by decide +kernel) rfl rfl (by decide) ⟨Nat.zero_le _, Nat.zero_le _⟩ (s_inN (nI c) 1 2 (by decide) (by decide) m) (fun v4 m1 hm1 => ?_)
  rcases hm1 with ⟨rfl, ⟨rfl, q⟩ | ⟨rfl, q⟩⟩
  · refine e_if_ne 13 dX4_image_7 (by decide) (fun c7 => ?_) (fun h => absurd h (by decide))
    refine e_aload_n dX4_image_13 rfl ?_
    refine e_getI dX4_image_14 lkX4_142 rfl rfl ?_
    rw [show m 98 4 = 1 from h0]
    refine e_if_ne 23 dX4_image_17 (by decide) (fun c17 => ?_) (fun h => absurd h (by decide))
    refine e_iconst (v := 0) dX4_image_23 rfl ?_
    refine e_istore_n (L' := [some (.ref 98), some (.int (nI c)), some (.int 0)]) dX4_image_24 (Nat.le_of_ble_eq_true rfl) (Nat.le_of_ble_eq_true rfl) (jnl_at (i := 1) rfl) rfl ?_
    refine e_loop 25 51 (fun k => [some (.ref 98), some (.int (nI c)), some (.int (nI k))]) (fun k => jup m 111 (va_cpy (m 102) (m 111) 0 (51 * c) k)) 0 (Nat.zero_le _) rfl (by rw [cpy_0, jup_id]) ?_ ?_
    · show jE _ _ 25 [some (.ref 98), some (.int (nI c)), some (.int (nI 51))] [] (jup m 111 (va_cpy (m 102) (m 111) 0 (51 * c) 51))
      obtain ⟨me, hme⟩ : ∃ y : jM, y = jup m 111 (va_cpy (m 102) (m 111) 0 (51 * c) 51) := ⟨_, rfl⟩
      refine e_start rfl hme.symm ?_
      refine e_iload_n dX4_image_25 rfl ?_
      refine e_bipush (v := 51) dX4_image_26 rfl ?_
      refine e_icmp_ge 54 dX4_image_28 (by decide) (fun c28 => ?_) (fun h => absurd (j_done rfl rfl) h)
      refine e_aload_n dX4_image_54 rfl ?_
      refine e_getR (o := 12) (b := 110) dX4_image_55 lkX4_43 rfl rfl (by decide) rfl ?_
      refine e_iload_n dX4_image_58 rfl ?_
      refine e_iconst (v := 1) dX4_image_59 rfl ?_
      refine e_zast dX4_image_60 rfl c rfl (by omega) (by decide) (by decide) (fun mf hmf => ?_)
      refine e_iconst (v := 1) dX4_image_61 rfl ?_
      exact e_iret dX4_image_62 rfl (⟨rfl, by rw [hmf, hme]⟩)
    · intro k hk ih
      show jE _ _ 25 [some (.ref 98), some (.int (nI c)), some (.int (nI k))] [] (jup m 111 (va_cpy (m 102) (m 111) 0 (51 * c) k))
      obtain ⟨mb, hmb⟩ : ∃ y : jM, y = jup m 111 (va_cpy (m 102) (m 111) 0 (51 * c) k) := ⟨_, rfl⟩
      refine e_start rfl hmb.symm ?_
      refine e_iload_n dX4_image_25 rfl ?_
      refine e_bipush (v := 51) dX4_image_26 rfl ?_
      refine e_icmp_ge 54 dX4_image_28 (by decide) (fun h => absurd h (j_more (N := 51) rfl rfl (by omega) (by omega))) (fun c28 => ?_)
      refine e_aload_n dX4_image_31 rfl ?_
      refine e_getR (o := 13) (b := 111) dX4_image_32 lkX4_47 rfl rfl (by decide) rfl ?_
      refine e_bipush (v := 51) dX4_image_35 rfl ?_
      refine e_iload_n dX4_image_37 rfl ?_
      refine e_imul dX4_image_38 ?_
      refine e_iload_n dX4_image_39 rfl ?_
      refine e_iadd dX4_image_40 ?_
      refine e_aload_n dX4_image_41 rfl ?_
      refine e_getR (o := 4) (b := 102) dX4_image_42 lkX4_19 rfl rfl (by decide) rfl ?_
      refine e_iload_n dX4_image_45 rfl ?_
      refine e_iald dX4_image_46 rfl k rfl (by omega) (by decide) ?_
      refine e_iast dX4_image_47 rfl ((51 * c) + k) (j_add (j_mul rfl rfl) rfl) (by omega) (by decide) (fun m3 hm3 => ?_)
      refine e_iinc (v := nI (k + 1)) (L' := [some (.ref 98), some (.int (nI c)), some (.int (nI (k + 1)))]) dX4_image_48 rfl (j_inc rfl) (by decide) (jnl_at (i := 1) rfl) rfl ?_
      refine e_goto 25 dX4_image_51 (by decide) ?_
      refine e_start rfl ?_ ih
      rw [hm3, hmb, jup_s, jup_jup, jup_n _ _ (by decide)]
      exact congrArg (jup m 111) (cpy_sd (by rw [Nat.zero_add]))
  · exact False.elim (q (inN_nI (by omega) hc))

set_option maxHeartbeats 2000000 in
set_option maxRecDepth 20000 in
theorem s_Drestore_b (m : jM) (x : Int32) (hb : ¬ inN x 2) : iX mX4_restore [.ref 98, .int x] m (fun v m1 => v = -1000001 ∧ m = m1) := by
  refine jX_of (L := [some (.ref 98), some (.int x), none]) 1 rfl rfl (by decide +kernel) rfl ?_
  refine e_iload_n dX4_restore_0 rfl ?_
  refine e_i2l dX4_restore_1 ?_
  refine e_lconst (v := 0) dX4_restore_2 rfl ?_
  refine e_lconst (v := 1) dX4_restore_3 rfl ?_
  refine e_callSi (n := 3) mX4_in [.long x.toInt64, .long 0, .long 1] dX4_restore_4 ckX4_60 rfl (by decide +kernel) rfl rfl (by decide) ⟨Nat.zero_le _, Nat.zero_le _⟩ (s_inN x 1 2 (by decide) (by decide) m) (fun v4 m1 hm1 => ?_)
  rcases hm1 with ⟨rfl, ⟨rfl, q⟩ | ⟨rfl, q⟩⟩
  · exact False.elim (hb q)
  · refine e_if_ne 13 dX4_restore_7 (by decide) (fun h => absurd h (by decide)) (fun c7 => ?_)
    refine e_ldc dX4_restore_10 kkX4_70 ?_
    exact e_iret dX4_restore_12 rfl (⟨rfl, rfl⟩)

set_option maxHeartbeats 2000000 in
set_option maxRecDepth 20000 in
theorem s_Drestore_s (m : jM) (c : Nat) (hc : c < 2) (h0 : m 110 c = 0) : iX mX4_restore [.ref 98, .int (nI c)] m (fun v m1 => v = -1000002 ∧ m = m1) := by
  refine jX_of (L := [some (.ref 98), some (.int (nI c)), none]) 1 rfl rfl (by decide +kernel) rfl ?_
  refine e_iload_n dX4_restore_0 rfl ?_
  refine e_i2l dX4_restore_1 ?_
  refine e_lconst (v := 0) dX4_restore_2 rfl ?_
  refine e_lconst (v := 1) dX4_restore_3 rfl ?_
  refine e_callSi (n := 3) mX4_in [.long ((nI c).toInt64), .long 0, .long 1] dX4_restore_4 ckX4_60 rfl (by decide +kernel) rfl rfl (by decide) ⟨Nat.zero_le _, Nat.zero_le _⟩ (s_inN (nI c) 1 2 (by decide) (by decide) m) (fun v4 m1 hm1 => ?_)
  rcases hm1 with ⟨rfl, ⟨rfl, q⟩ | ⟨rfl, q⟩⟩
  · refine e_if_ne 13 dX4_restore_7 (by decide) (fun c7 => ?_) (fun h => absurd h (by decide))
    refine e_aload_n dX4_restore_13 rfl ?_
    refine e_getR (o := 12) (b := 110) dX4_restore_14 lkX4_43 rfl rfl (by decide) rfl ?_
    refine e_iload_n dX4_restore_17 rfl ?_
    refine e_zald dX4_restore_18 rfl c rfl (by omega) (by decide) ?_
    rw [show m 110 c = 0 from h0]
    refine e_if_ne 25 dX4_restore_19 (by decide) (fun h => absurd rfl h) (fun c19 => ?_)
    refine e_ldc dX4_restore_22 kkX4_157 ?_
    exact e_iret dX4_restore_24 rfl (⟨rfl, rfl⟩)
  · exact False.elim (q (inN_nI (by omega) hc))

set_option maxHeartbeats 2000000 in
set_option maxRecDepth 20000 in
theorem s_Drestore (m : jM) (c : Nat) (hc : c < 2) (h0 : m 110 c = 1) : iX mX4_restore [.ref 98, .int (nI c)] m (fun v m1 => v = 1 ∧ jst (jup m 102 (va_cpy (m 111) (m 102) (51 * c) 0 51)) 98 18 0 = m1) := by
  refine jX_of (L := [some (.ref 98), some (.int (nI c)), none]) 1 rfl rfl (by decide +kernel) rfl ?_
  refine e_iload_n dX4_restore_0 rfl ?_
  refine e_i2l dX4_restore_1 ?_
  refine e_lconst (v := 0) dX4_restore_2 rfl ?_
  refine e_lconst (v := 1) dX4_restore_3 rfl ?_
  refine e_callSi (n := 3) mX4_in [.long ((nI c).toInt64), .long 0, .long 1] dX4_restore_4 ckX4_60 rfl (by decide +kernel) rfl rfl (by decide) ⟨Nat.zero_le _, Nat.zero_le _⟩ (s_inN (nI c) 1 2 (by decide) (by decide) m) (fun v4 m1 hm1 => ?_)
  rcases hm1 with ⟨rfl, ⟨rfl, q⟩ | ⟨rfl, q⟩⟩
  · refine e_if_ne 13 dX4_restore_7 (by decide) (fun c7 => ?_) (fun h => absurd h (by decide))
    refine e_aload_n dX4_restore_13 rfl ?_
    refine e_getR (o := 12) (b := 110) dX4_restore_14 lkX4_43 rfl rfl (by decide) rfl ?_
    refine e_iload_n dX4_restore_17 rfl ?_
    refine e_zald dX4_restore_18 rfl c rfl (by omega) (by decide) ?_
    rw [show m 110 c = 1 from h0]
    refine e_if_ne 25 dX4_restore_19 (by decide) (fun c19 => ?_) (fun h => absurd h (by decide))
    refine e_iconst (v := 0) dX4_restore_25 rfl ?_
    refine e_istore_n (L' := [some (.ref 98), some (.int (nI c)), some (.int 0)]) dX4_restore_26 (Nat.le_of_ble_eq_true rfl) (Nat.le_of_ble_eq_true rfl) (jnl_at (i := 1) rfl) rfl ?_
    refine e_loop 27 51 (fun k => [some (.ref 98), some (.int (nI c)), some (.int (nI k))]) (fun k => jup m 102 (va_cpy (m 111) (m 102) (51 * c) 0 k)) 0 (Nat.zero_le _) rfl (by rw [cpy_0, jup_id]) ?_ ?_
    · show jE _ _ 27 [some (.ref 98), some (.int (nI c)), some (.int (nI 51))] [] (jup m 102 (va_cpy (m 111) (m 102) (51 * c) 0 51))
      obtain ⟨me, hme⟩ : ∃ y : jM, y = jup m 102 (va_cpy (m 111) (m 102) (51 * c) 0 51) := ⟨_, rfl⟩
      refine e_start rfl hme.symm ?_
      refine e_iload_n dX4_restore_27 rfl ?_
      refine e_bipush (v := 51) dX4_restore_28 rfl ?_
      refine e_icmp_ge 56 dX4_restore_30 (by decide) (fun c30 => ?_) (fun h => absurd (j_done rfl rfl) h)
      refine e_aload_n dX4_restore_56 rfl ?_
      refine e_iconst (v := 0) dX4_restore_57 rfl ?_
      refine e_putI dX4_restore_58 lkX4_146 rfl rfl fwX4_18 (Or.inl rfl) (fun mf hmf => ?_)
      refine e_iconst (v := 1) dX4_restore_61 rfl ?_
      exact e_iret dX4_restore_62 rfl (⟨rfl, by rw [hmf, hme]⟩)
    · intro k hk ih
      show jE _ _ 27 [some (.ref 98), some (.int (nI c)), some (.int (nI k))] [] (jup m 102 (va_cpy (m 111) (m 102) (51 * c) 0 k))
      obtain ⟨mb, hmb⟩ : ∃ y : jM, y = jup m 102 (va_cpy (m 111) (m 102) (51 * c) 0 k) := ⟨_, rfl⟩
      refine e_start rfl hmb.symm ?_
      refine e_iload_n dX4_restore_27 rfl ?_
      refine e_bipush (v := 51) dX4_restore_28 rfl ?_
      refine e_icmp_ge 56 dX4_restore_30 (by decide) (fun h => absurd h (j_more (N := 51) rfl rfl (by omega) (by omega))) (fun c30 => ?_)
      refine e_aload_n dX4_restore_33 rfl ?_
      refine e_getR (o := 4) (b := 102) dX4_restore_34 lkX4_19 rfl rfl (by decide) rfl ?_
      refine e_iload_n dX4_restore_37 rfl ?_
      refine e_aload_n dX4_restore_38 rfl ?_
      refine e_getR (o := 13) (b := 111) dX4_restore_39 lkX4_47 rfl rfl (by decide) rfl ?_
      refine e_bipush (v := 51) dX4_restore_42 rfl ?_
      refine e_iload_n dX4_restore_44 rfl ?_
      refine e_imul dX4_restore_45 ?_
      refine e_iload_n dX4_restore_46 rfl ?_
      refine e_iadd dX4_restore_47 ?_
      refine e_iald dX4_restore_48 rfl ((51 * c) + k) (j_add (j_mul rfl rfl) rfl) (by omega) (by decide) ?_
      refine e_iast dX4_restore_49 rfl k rfl (by omega) (by decide) (fun m3 hm3 => ?_)
      refine e_iinc (v := nI (k + 1)) (L' := [some (.ref 98), some (.int (nI c)), some (.int (nI (k + 1)))]) dX4_restore_50 rfl (j_inc rfl) (by decide) (jnl_at (i := 1) rfl) rfl ?_
      refine e_goto 27 dX4_restore_53 (by decide) ?_
      refine e_start rfl ?_ ih
      rw [hm3, hmb, jup_s, jup_jup, jup_n _ _ (by decide)]
      exact congrArg (jup m 102) (cpy_s0' rfl)
  · exact False.elim (q (inN_nI (by omega) hc))

set_option maxHeartbeats 2000000 in
set_option maxRecDepth 20000 in
theorem s_Dkind_b (m : jM) (x : Int32) (P : Nat) (hP : P ≤ 5) (h2 : m 102 2 = nI P) (hb : ¬ inN x P) : iX mX4_kind [.ref 98, .int x] m (fun v m1 => v = -1000001 ∧ m = m1) := by
  refine jX_of (L := [some (.ref 98), some (.int x)]) 0 rfl rfl (by decide +kernel) rfl ?_
  refine e_aload_n dX4_kind_0 rfl ?_
  refine e_iload_n dX4_kind_1 rfl ?_
  refine e_callVi (n := 1) mX4_isPan [.int x] dX4_kind_2 ckX4_171 rfl (by decide +kernel) rfl rfl rfl rfl (by decide) ⟨Nat.zero_le _, Nat.zero_le _⟩ (s_panN x m P hP h2) (fun v2 m1 hm1 => ?_)
  rcases hm1 with ⟨rfl, ⟨rfl, q⟩ | ⟨rfl, q⟩⟩
  · exact False.elim (hb q)
  · refine e_if_eq 20 dX4_kind_5 (by decide) (fun c5 => ?_) (fun h => absurd h (by decide))
    refine e_ldc dX4_kind_20 kkX4_70 ?_
    exact e_iret dX4_kind_22 rfl (⟨rfl, rfl⟩)

set_option maxHeartbeats 2000000 in
set_option maxRecDepth 20000 in
theorem s_Dkind (m : jM) (p : Nat) (P : Nat) (hP : P ≤ 5) (h2 : m 102 2 = nI P) (hp : p < P) : iX mX4_kind [.ref 98, .int (nI p)] m (fun v m1 => v = m 102 (16 + p) ∧ m = m1) := by
  refine jX_of (L := [some (.ref 98), some (.int (nI p))]) 0 rfl rfl (by decide +kernel) rfl ?_
  refine e_aload_n dX4_kind_0 rfl ?_
  refine e_iload_n dX4_kind_1 rfl ?_
  refine e_callVi (n := 1) mX4_isPan [.int (nI p)] dX4_kind_2 ckX4_171 rfl (by decide +kernel) rfl rfl rfl rfl (by decide) ⟨Nat.zero_le _, Nat.zero_le _⟩ (s_panN (nI p) m P hP h2) (fun v2 m1 hm1 => ?_)
  rcases hm1 with ⟨rfl, ⟨rfl, q⟩ | ⟨rfl, q⟩⟩
  · refine e_if_eq 20 dX4_kind_5 (by decide) (fun h => absurd h (by decide)) (fun c5 => ?_)
    refine e_aload_n dX4_kind_8 rfl ?_
    refine e_getR (o := 4) (b := 102) dX4_kind_9 lkX4_19 rfl rfl (by decide) rfl ?_
    refine e_bipush (v := 16) dX4_kind_12 rfl ?_
    refine e_iload_n dX4_kind_14 rfl ?_
    refine e_iadd dX4_kind_15 ?_
    refine e_iald dX4_kind_16 rfl (16 + p) (j_add rfl rfl) (by omega) (by decide) ?_
    refine e_goto 22 dX4_kind_17 (by decide) ?_
    exact e_iret dX4_kind_22 rfl (⟨rfl, rfl⟩)
  · exact False.elim (q (inN_nI (by omega) hp))

set_option maxHeartbeats 2000000 in
set_option maxRecDepth 20000 in
theorem s_isKind (m : jM) (k a : Int32) : iX mX4_isKind [.int k, .int a] m (fun v m1 => m = m1 ∧ isB v (kindP k a)) := by
  refine jX_of (L := [some (.int k), some (.int a)]) 0 rfl rfl (by decide +kernel) rfl ?_
  refine e_iload_n dX4_isKind_0 rfl ?_
  refine e_if_eq 29 dX4_isKind_1 (by decide) (fun c1 => ?_) (fun c1 => ?_)
  · refine e_iconst (v := 1) dX4_isKind_29 rfl ?_
    refine e_goto 34 dX4_isKind_30 (by decide) ?_
    exact e_zret dX4_isKind_34 rfl (by decide) (⟨rfl, by unfold kindP; first | (refine isB.t ?_; simp_all; done) | (refine isB.f ?_; simp_all; done)⟩)
  · refine e_iload_n dX4_isKind_4 rfl ?_
    refine e_iload_n dX4_isKind_5 rfl ?_
    refine e_icmp_eq 29 dX4_isKind_6 (by decide) (fun c6 => ?_) (fun c6 => ?_)
    · refine e_iconst (v := 1) dX4_isKind_29 rfl ?_
      refine e_goto 34 dX4_isKind_30 (by decide) ?_
      exact e_zret dX4_isKind_34 rfl (by decide) (⟨rfl, by unfold kindP; first | (refine isB.t ?_; simp_all; done) | (refine isB.f ?_; simp_all; done)⟩)
    · refine e_iload_n dX4_isKind_9 rfl ?_
      refine e_iconst (v := 1) dX4_isKind_10 rfl ?_
      refine e_icmp_ne 19 dX4_isKind_11 (by decide) (fun c11 => ?_) (fun c11 => ?_)
      · refine e_iload_n dX4_isKind_19 rfl ?_
        refine e_iconst (v := 4) dX4_isKind_20 rfl ?_
        refine e_icmp_ne 33 dX4_isKind_21 (by decide) (fun c21 => ?_) (fun c21 => ?_)
        · refine e_iconst (v := 0) dX4_isKind_33 rfl ?_
          exact e_zret dX4_isKind_34 rfl (by decide) (⟨rfl, by unfold kindP; first | (refine isB.t ?_; simp_all; done) | (refine isB.f ?_; simp_all; done)⟩)
        · refine e_iload_n dX4_isKind_24 rfl ?_
          refine e_iconst (v := 5) dX4_isKind_25 rfl ?_
          refine e_icmp_ne 33 dX4_isKind_26 (by decide) (fun c26 => ?_) (fun c26 => ?_)
          · refine e_iconst (v := 0) dX4_isKind_33 rfl ?_
            exact e_zret dX4_isKind_34 rfl (by decide) (⟨rfl, by unfold kindP; first | (refine isB.t ?_; simp_all; done) | (refine isB.f ?_; simp_all; done)⟩)
          · refine e_iconst (v := 1) dX4_isKind_29 rfl ?_
            refine e_goto 34 dX4_isKind_30 (by decide) ?_
            exact e_zret dX4_isKind_34 rfl (by decide) (⟨rfl, by unfold kindP; first | (refine isB.t ?_; simp_all; done) | (refine isB.f ?_; simp_all; done)⟩)
      · refine e_iload_n dX4_isKind_14 rfl ?_
        refine e_iconst (v := 4) dX4_isKind_15 rfl ?_
        refine e_icmp_lt 29 dX4_isKind_16 (by decide) (fun c16 => ?_) (fun c16 => ?_)
        · refine e_iconst (v := 1) dX4_isKind_29 rfl ?_
          refine e_goto 34 dX4_isKind_30 (by decide) ?_
          exact e_zret dX4_isKind_34 rfl (by decide) (⟨rfl, by unfold kindP; first | (refine isB.t ?_; simp_all; done) | (refine isB.f ?_; simp_all; done)⟩)
        · refine e_iload_n dX4_isKind_19 rfl ?_
          refine e_iconst (v := 4) dX4_isKind_20 rfl ?_
          refine e_icmp_ne 33 dX4_isKind_21 (by decide) (fun c21 => ?_) (fun c21 => ?_)
          · refine e_iconst (v := 0) dX4_isKind_33 rfl ?_
            exact e_zret dX4_isKind_34 rfl (by decide) (⟨rfl, by unfold kindP; first | (refine isB.t ?_; simp_all; done) | (refine isB.f ?_; simp_all; done)⟩)
          · refine e_iload_n dX4_isKind_24 rfl ?_
            refine e_iconst (v := 5) dX4_isKind_25 rfl ?_
            refine e_icmp_ne 33 dX4_isKind_26 (by decide) (fun c26 => ?_) (fun c26 => ?_)
            · refine e_iconst (v := 0) dX4_isKind_33 rfl ?_
              exact e_zret dX4_isKind_34 rfl (by decide) (⟨rfl, by unfold kindP; first | (refine isB.t ?_; simp_all; done) | (refine isB.f ?_; simp_all; done)⟩)
            · refine e_iconst (v := 1) dX4_isKind_29 rfl ?_
              refine e_goto 34 dX4_isKind_30 (by decide) ?_
              exact e_zret dX4_isKind_34 rfl (by decide) (⟨rfl, by unfold kindP; first | (refine isB.t ?_; simp_all; done) | (refine isB.f ?_; simp_all; done)⟩)

set_option maxHeartbeats 2000000 in
set_option maxRecDepth 20000 in
theorem s_Das_b (m : jM) (x a : Int32) (P : Nat) (hP : P ≤ 5) (h2 : m 102 2 = nI P) (hb : ¬ (inN x P ∧ inN a 6)) : iX mX4_as [.ref 98, .int x, .int a] m (fun v m1 => v = -1000001 ∧ m = m1) := by
  refine jX_of (L := [some (.ref 98), some (.int x), some (.int a)]) 0 rfl rfl (by decide +kernel) rfl ?_
  refine e_aload_n dX4_as_0 rfl ?_
  refine e_iload_n dX4_as_1 rfl ?_
  refine e_callVi (n := 1) mX4_isPan [.int x] dX4_as_2 ckX4_171 rfl (by decide +kernel) rfl rfl rfl rfl (by decide) ⟨Nat.zero_le _, Nat.zero_le _⟩ (s_panN x m P hP h2) (fun v2 m1 hm1 => ?_)
  rcases hm1 with ⟨rfl, ⟨rfl, q⟩ | ⟨rfl, q⟩⟩
  · refine e_if_eq 20 dX4_as_5 (by decide) (fun h => absurd h (by decide)) (fun c5 => ?_)
    refine e_iload_n dX4_as_8 rfl ?_
    refine e_i2l dX4_as_9 ?_
    refine e_lconst (v := 0) dX4_as_10 rfl ?_
    refine e_ldc2 dX4_as_11 kkX4_219 ?_
    refine e_callSi (n := 3) mX4_in [.long a.toInt64, .long 0, .long (5)] dX4_as_14 ckX4_60 rfl (by decide +kernel) rfl rfl (by decide) ⟨Nat.zero_le _, Nat.zero_le _⟩ (s_inN a (5) 6 (by decide) (by decide) m) (fun v14 m2 hm2 => ?_)
    rcases hm2 with ⟨rfl, ⟨rfl, q2⟩ | ⟨rfl, q2⟩⟩
    · exact False.elim (hb ⟨q, q2⟩)
    · refine e_if_ne 23 dX4_as_17 (by decide) (fun h => absurd h (by decide)) (fun c17 => ?_)
      refine e_ldc dX4_as_20 kkX4_70 ?_
      exact e_iret dX4_as_22 rfl (⟨rfl, rfl⟩)
  · refine e_if_eq 20 dX4_as_5 (by decide) (fun c5 => ?_) (fun h => absurd h (by decide))
    refine e_ldc dX4_as_20 kkX4_70 ?_
    exact e_iret dX4_as_22 rfl (⟨rfl, rfl⟩)

set_option maxHeartbeats 2000000 in
set_option maxRecDepth 20000 in
theorem s_Das (m : jM) (p : Nat) (a : Int32) (P : Nat) (hP : P ≤ 5) (h2 : m 102 2 = nI P) (hp : p < P) (ha : inN a 6) : iX mX4_as [.ref 98, .int (nI p), .int a] m (fun v m1 => (kindP (m 102 (16 + p)) a ∧ v = nI p ∧ jst m 98 3 0 = m1) ∨ (¬ kindP (m 102 (16 + p)) a ∧ v = -1000013 ∧ jst m 98 3 3 = m1)) := by
  refine jX_of (L := [some (.ref 98), some (.int (nI p)), some (.int a)]) 0 rfl rfl (by decide +kernel) rfl ?_
  refine e_aload_n dX4_as_0 rfl ?_
  refine e_iload_n dX4_as_1 rfl ?_
  refine e_callVi (n := 1) mX4_isPan [.int (nI p)] dX4_as_2 ckX4_171 rfl (by decide +kernel) rfl rfl rfl rfl (by decide) ⟨Nat.zero_le _, Nat.zero_le _⟩ (s_panN (nI p) m P hP h2) (fun v2 m1 hm1 => ?_)
  rcases hm1 with ⟨rfl, ⟨rfl, q⟩ | ⟨rfl, q⟩⟩
  · refine e_if_eq 20 dX4_as_5 (by decide) (fun h => absurd h (by decide)) (fun c5 => ?_)
    refine e_iload_n dX4_as_8 rfl ?_
    refine e_i2l dX4_as_9 ?_
    refine e_lconst (v := 0) dX4_as_10 rfl ?_
    refine e_ldc2 dX4_as_11 kkX4_219 ?_
    refine e_callSi (n := 3) mX4_in [.long a.toInt64, .long 0, .long (5)] dX4_as_14 ckX4_60 rfl (by decide +kernel) rfl rfl (by decide) ⟨Nat.zero_le _, Nat.zero_le _⟩ (s_inN a (5) 6 (by decide) (by decide) m) (fun v14 m2 hm2 => ?_)
    rcases hm2 with ⟨rfl, ⟨rfl, q2⟩ | ⟨rfl, q2⟩⟩
    · refine e_if_ne 23 dX4_as_17 (by decide) (fun c17 => ?_) (fun h => absurd h (by decide))
      refine e_aload_n dX4_as_23 rfl ?_
      refine e_getR (o := 4) (b := 102) dX4_as_24 lkX4_19 rfl rfl (by decide) rfl ?_
      refine e_bipush (v := 16) dX4_as_27 rfl ?_
      refine e_iload_n dX4_as_29 rfl ?_
      refine e_iadd dX4_as_30 ?_
      refine e_iald dX4_as_31 rfl (16 + p) (j_add rfl rfl) (by omega) (by decide) ?_
      refine e_iload_n dX4_as_32 rfl ?_
      refine e_callSi (n := 2) mX4_isKind [.int (m 102 (16 + p)), .int a] dX4_as_33 ckX4_221 rfl (by decide +kernel) rfl rfl (by decide) ⟨Nat.zero_le _, Nat.zero_le _⟩ (s_isKind m (m 102 (16 + p)) a) (fun v33 m3 hm3 => ?_)
      rcases hm3 with ⟨rfl, ⟨rfl, q3⟩ | ⟨rfl, q3⟩⟩
      · refine e_if_eq 47 dX4_as_36 (by decide) (fun h => absurd h (by decide)) (fun c36 => ?_)
        refine e_aload_n dX4_as_39 rfl ?_
        refine e_iload_n dX4_as_40 rfl ?_
        refine e_callVi (n := 1) mX4_well [.int (nI p)] dX4_as_41 ckX4_75 rfl (by decide +kernel) rfl rfl rfl rfl (by decide) ⟨Nat.zero_le _, Nat.zero_le _⟩ (s_well (nI p) m) (fun v41 mw hmw => ?_)
        obtain ⟨rfl, hw⟩ := hmw
        refine e_goto 52 dX4_as_44 (by decide) ?_
        exact e_iret dX4_as_52 rfl (by first | exact Or.inl ⟨q3, rfl, hw⟩ | exact Or.inr ⟨q3, rfl, hw⟩)
      · refine e_if_eq 47 dX4_as_36 (by decide) (fun c36 => ?_) (fun h => absurd h (by decide))
        refine e_aload_n dX4_as_47 rfl ?_
        refine e_iconst (v := 3) dX4_as_48 rfl ?_
        refine e_callVi (n := 1) mX4_find [.int 3] dX4_as_49 ckX4_71 rfl (by decide +kernel) rfl rfl rfl rfl (by decide) ⟨Nat.zero_le _, Nat.zero_le _⟩ (s_find 3 m) (fun v49 mw hmw => ?_)
        obtain ⟨rfl, hw⟩ := hmw
        exact e_iret dX4_as_52 rfl (by first | exact Or.inl ⟨q3, rfl, hw⟩ | exact Or.inr ⟨q3, rfl, hw⟩)
    · exact False.elim (q2 ha)
  · exact False.elim (q (inN_nI (by omega) hp))

set_option maxHeartbeats 2000000 in
set_option maxRecDepth 20000 in
theorem s_Dfault (m : jM) : iX mX4_fault [.ref 98] m (fun v m1 => v = m 98 9 ∧ m = m1) := by
  refine jX_of (L := [some (.ref 98)]) 0 rfl rfl (by decide +kernel) rfl ?_
  refine e_aload_n dX4_fault_0 rfl ?_
  refine e_getI dX4_fault_1 lkX4_138 rfl rfl ?_
  exact e_iret dX4_fault_4 rfl (⟨rfl, rfl⟩)

set_option maxHeartbeats 2000000 in
set_option maxRecDepth 20000 in
theorem s_Dstatus (m : jM) : iX mX4_status [.ref 98] m (fun v m1 => v = m 98 3 ∧ m = m1) := by
  refine jX_of (L := [some (.ref 98)]) 0 rfl rfl (by decide +kernel) rfl ?_
  refine e_aload_n dX4_status_0 rfl ?_
  refine e_getI dX4_status_1 lkX4_53 rfl rfl ?_
  exact e_iret dX4_status_4 rfl (⟨rfl, rfl⟩)
