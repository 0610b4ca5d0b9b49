/-! ===== asks of pans ===== -/
theorem jst_s (m : jM) (c j : Nat) (x : Int32) : jst m c j x c = upd (m c) j x := jup_s _ _ _
theorem jst_n (m : jM) {c a : Nat} (j : Nat) (x : Int32) (h : a ≠ c) : jst m c j x a = m a := jup_n _ _ h
/-- a body's number is left in the trace -/
def begM (m : jM) (x : Int32) : jM := if m 98 25 < 16 then jst (jst m 112 (m 98 25).toNatClampNeg x) 98 25 (m 98 25 + 1) else m
def bgs (m : jM) (l : List Int32) : jM := l.foldl begM m
def trD (m : jM) : Prop := ∃ k : Nat, k ≤ 16 ∧ m 98 25 = nI k
theorem begM_o {m : jM} {x : Int32} {c : Nat} (h : c ≠ 98) (h2 : c ≠ 112) : begM m x c = m c := by
  unfold begM
  by_cases e : m 98 25 < 16
  · rw [if_pos e, jst_n _ _ _ h, jst_n _ _ _ h2]
  · rw [if_neg e]
theorem trD_b {m : jM} (x : Int32) (h : trD m) : trD (begM m x) := by
  obtain ⟨k, hk, e⟩ := h
  unfold begM
  by_cases c : m 98 25 < 16
  · rw [if_pos c]
    refine ⟨k + 1, ?_, ?_⟩
    · rw [e] at c
      have := (j_lt (a := k) (b := 16) (by omega) (by decide)).mp c
      omega
    · rw [jst_s, upd_s, e]
      exact nI_1 k
  · rw [if_neg c]
    exact ⟨k, hk, e⟩
def sizMar (k needs : Int32) : Int32 := if k = 5 then 2 * (needs - 100) else needs - 100
def sizMarB (k : Int32) : List Int32 := if k = 5 then [14, 13, 10] else [13, 10]
def markV (k p needs thick : Int32) : Int32 := if k = 2 then 2 * (p + thick) else if k = 3 then p + thick - 1000 else if k = 1 then p + thick else p - sizMar k needs
def markB (k : Int32) : List Int32 := if k = 2 then [24, 21, 20] else if k = 3 then [22, 21, 20] else if k = 1 then [21, 20] else 23 :: 20 :: sizMarB k
def sizeV (k p needs thick : Int32) : Int32 := if k = 2 then -(needs + markV k p needs thick) else if 4 ≤ k then sizMar k needs else needs + markV k p needs thick
def sizeB (k : Int32) : List Int32 := if k = 2 then 12 :: 11 :: 10 :: markB k else if 4 ≤ k then sizMarB k else 11 :: 10 :: markB k
set_option maxHeartbeats 2000000 in
set_option maxRecDepth 20000 in
theorem s_begin (m : jM) (x : Int32) (ht : trD m) : vX mX4_begin [.ref 98, .int x] m (fun m1 => begM m x = m1) := by
  obtain ⟨t, h16, e⟩ := ht
  refine jX_of (L := [some (.ref 98), some (.int x)]) 0 rfl rfl (by decide +kernel) rfl ?_
  refine e_aload_n dX4_begin_0 rfl ?_
  refine e_getI dX4_begin_1 lkX4_224 rfl rfl ?_
  rw [show m 98 25 = nI t from e]
  refine e_bipush (v := 16) dX4_begin_4 rfl ?_
  refine e_icmp_ge 29 dX4_begin_6 (by decide) (fun c6 => ?_) (fun c6 => ?_)
  · have q : ¬ nI t < 16 := Int32.not_lt.mpr c6
    exact e_vret dX4_begin_29 rfl (by unfold begM; rw [e, if_neg q])
  · have q : nI t < 16 := Int32.not_le.mp c6
    have q2 : t < 16 := (j_lt (a := t) (b := 16) (by omega) (by decide)).mp q
    refine e_aload_n dX4_begin_9 rfl ?_
    refine e_getR (o := 14) (b := 112) dX4_begin_10 lkX4_50 rfl rfl (by decide) rfl ?_
    refine e_aload_n dX4_begin_13 rfl ?_
    refine e_getI dX4_begin_14 lkX4_224 rfl rfl ?_
    rw [show m 98 25 = nI t from e]
    refine e_iload_n dX4_begin_17 rfl ?_
    refine e_iast dX4_begin_18 rfl t rfl (by omega) (by decide) (fun ma hma => ?_)
    refine e_aload_n dX4_begin_19 rfl ?_
    refine e_dup dX4_begin_20 rfl ?_
    refine e_getI dX4_begin_21 lkX4_224 rfl rfl ?_
    rw [show ma 98 25 = nI t from by rw [hma, jup_n _ _ (by decide)]; exact e]
    refine e_iconst (v := 1) dX4_begin_24 rfl ?_
    refine e_iadd dX4_begin_25 ?_
    rw [show (nI t) + 1 = nI (t + 1) from nI_1 t]
    refine e_putI dX4_begin_26 lkX4_224 rfl rfl fwX4_25 (Or.inl rfl) (fun mb hmb => ?_)
    exact e_vret dX4_begin_29 rfl (by unfold begM; rw [e, if_pos q, nI_clamp (by omega), nI_1, hmb, hma])

set_option maxHeartbeats 2000000 in
set_option maxRecDepth 20000 in
theorem s_lent (m : jM) (p : Nat) (hp : p < 5) (x : Int32) (ht : trD m) : iX mX4_lent [.ref 98, .int (nI p), .int x] m (fun v m1 => v = (if x = 10 then m 102 (26 + p) else nI p) ∧ begM m x = m1) := by
  refine jX_of (L := [some (.ref 98), some (.int (nI p)), some (.int x)]) 0 rfl rfl (by decide +kernel) rfl ?_
  refine e_aload_n dX4_lent_0 rfl ?_
  refine e_iload_n dX4_lent_1 rfl ?_
  refine e_callVv (n := 1) mX4_begin [.int x] dX4_lent_2 ckX4_227 rfl (by decide +kernel) rfl rfl rfl rfl (Nat.le_of_ble_eq_true rfl) ⟨Nat.zero_le _, Nat.zero_le _⟩ (s_begin m x ht) (fun m1 hm1 => ?_)
  obtain rfl := hm1
  refine e_iload_n dX4_lent_5 rfl ?_
  refine e_bipush (v := 10) dX4_lent_6 rfl ?_
  refine e_icmp_ne 23 dX4_lent_8 (by decide) (fun c8 => ?_) (fun c8 => ?_)
  · refine e_iload_n dX4_lent_23 rfl ?_
    exact e_iret dX4_lent_24 rfl (⟨by first | rw [if_pos c8] | rw [if_neg c8], rfl⟩)
  · refine e_aload_n dX4_lent_11 rfl ?_
    refine e_getR (o := 4) (b := 102) dX4_lent_12 lkX4_19 rfl rfl (by decide) rfl ?_
    refine e_bipush (v := 26) dX4_lent_15 rfl ?_
    refine e_iload_n dX4_lent_17 rfl ?_
    refine e_iadd dX4_lent_18 ?_
    refine e_iald dX4_lent_19 rfl (26 + p) (j_add rfl rfl) (by omega) (by decide) ?_
    rw [show (begM m x) 102 (26 + p) = m 102 (26 + p) from by simp only [begM_o (show (102 : Nat) ≠ 98 by decide) (show (102 : Nat) ≠ 112 by decide), bgs, List.foldl] <;> first | rfl | assumption]
    refine e_goto 24 dX4_lent_20 (by decide) ?_
    exact e_iret dX4_lent_24 rfl (⟨by first | rw [if_pos c8] | rw [if_neg c8], rfl⟩)

set_option maxHeartbeats 2000000 in
set_option maxRecDepth 20000 in
theorem s_DplumMark (m : jM) (p : Nat) (hp : p < 5) (ht : trD m) : iX mX4_plumMark [.ref 98, .int (nI p)] m (fun v m1 => v = nI p + m 102 (36 + p) ∧ bgs m [21, 20] = m1) := by
  refine jX_of (L := [some (.ref 98), some (.int (nI p))]) 0 rfl rfl (by decide +kernel) rfl ?_
  refine e_aload_n dX4_plumMark_0 rfl ?_
  refine e_bipush (v := 21) dX4_plumMark_1 rfl ?_
  refine e_callVv (n := 1) mX4_begin [.int 21] dX4_plumMark_3 ckX4_227 rfl (by decide +kernel) rfl rfl rfl rfl (Nat.le_of_ble_eq_true rfl) ⟨Nat.zero_le _, Nat.zero_le _⟩ (s_begin m 21 ht) (fun m1 hm1 => ?_)
  obtain rfl := hm1
  refine e_aload_n dX4_plumMark_6 rfl ?_
  refine e_iload_n dX4_plumMark_7 rfl ?_
  refine e_bipush (v := 20) dX4_plumMark_8 rfl ?_
  refine e_callVi (n := 2) mX4_lent [.int (nI p), .int 20] dX4_plumMark_10 ckX4_230 rfl (by decide +kernel) rfl rfl rfl rfl (Nat.le_of_ble_eq_true rfl) ⟨Nat.zero_le _, Nat.zero_le _⟩ (s_lent (begM m 21) p hp 20 (trD_b 21 ht)) (fun v10 m2 hm2 => ?_)
  obtain ⟨e1, rfl⟩ := hm2
  rw [show (if (20 : Int32) = 10 then (begM m 21) 102 (26 + p) else nI p) = nI p from by rw [if_neg (by decide)]] at e1
  subst e1
  refine e_aload_n dX4_plumMark_13 rfl ?_
  refine e_getR (o := 4) (b := 102) dX4_plumMark_14 lkX4_19 rfl rfl (by decide) rfl ?_
  refine e_bipush (v := 36) dX4_plumMark_17 rfl ?_
  refine e_iload_n dX4_plumMark_19 rfl ?_
  refine e_iadd dX4_plumMark_20 ?_
  refine e_iald dX4_plumMark_21 rfl (36 + p) (j_add rfl rfl) (by omega) (by decide) ?_
  rw [show (begM (begM m 21) 20) 102 (36 + p) = m 102 (36 + p) from by simp only [begM_o (show (102 : Nat) ≠ 98 by decide) (show (102 : Nat) ≠ 112 by decide)]]
  refine e_iadd dX4_plumMark_22 ?_
  exact e_iret dX4_plumMark_23 rfl (⟨rfl, rfl⟩)

set_option maxHeartbeats 2000000 in
set_option maxRecDepth 20000 in
theorem s_DmarrowSize (m : jM) (p : Nat) (hp : p < 5) (ht : trD m) : iX mX4_marrowSize [.ref 98, .int (nI p)] m (fun v m1 => v = m 102 (26 + p) - 100 ∧ bgs m [13, 10] = m1) := by
  refine jX_of (L := [some (.ref 98), some (.int (nI p))]) 0 rfl rfl (by decide +kernel) rfl ?_
  refine e_aload_n dX4_marrowSize_0 rfl ?_
  refine e_bipush (v := 13) dX4_marrowSize_1 rfl ?_
  refine e_callVv (n := 1) mX4_begin [.int 13] dX4_marrowSize_3 ckX4_227 rfl (by decide +kernel) rfl rfl rfl rfl (Nat.le_of_ble_eq_true rfl) ⟨Nat.zero_le _, Nat.zero_le _⟩ (s_begin m 13 ht) (fun m1 hm1 => ?_)
  obtain rfl := hm1
  refine e_aload_n dX4_marrowSize_6 rfl ?_
  refine e_iload_n dX4_marrowSize_7 rfl ?_
  refine e_bipush (v := 10) dX4_marrowSize_8 rfl ?_
  refine e_callVi (n := 2) mX4_lent [.int (nI p), .int 10] dX4_marrowSize_10 ckX4_230 rfl (by decide +kernel) rfl rfl rfl rfl (Nat.le_of_ble_eq_true rfl) ⟨Nat.zero_le _, Nat.zero_le _⟩ (s_lent (begM m 13) p hp 10 (trD_b 13 ht)) (fun v10 m2 hm2 => ?_)
  obtain ⟨e1, rfl⟩ := hm2
  rw [show (if (10 : Int32) = 10 then (begM m 13) 102 (26 + p) else nI p) = m 102 (26 + p) from by rw [if_pos rfl]; simp only [begM_o (show (102 : Nat) ≠ 98 by decide) (show (102 : Nat) ≠ 112 by decide)]] at e1
  subst e1
  refine e_bipush (v := 100) dX4_marrowSize_13 rfl ?_
  refine e_isub dX4_marrowSize_15 ?_
  exact e_iret dX4_marrowSize_16 rfl (⟨rfl, rfl⟩)

set_option maxHeartbeats 2000000 in
set_option maxRecDepth 20000 in
theorem s_DsizeOfMarrow (m : jM) (p : Nat) (hp : p < 5) (ht : trD m) : iX mX4_sizeOfMarrow [.ref 98, .int (nI p)] m (fun v m1 => v = sizMar (m 102 (16 + p)) (m 102 (26 + p)) ∧ bgs m (sizMarB (m 102 (16 + p))) = m1) := by
  refine jX_of (L := [some (.ref 98), some (.int (nI p))]) 0 rfl rfl (by decide +kernel) rfl ?_
  refine e_aload_n dX4_sizeOfMarrow_0 rfl ?_
  refine e_getR (o := 4) (b := 102) dX4_sizeOfMarrow_1 lkX4_19 rfl rfl (by decide) rfl ?_
  refine e_bipush (v := 16) dX4_sizeOfMarrow_4 rfl ?_
  refine e_iload_n dX4_sizeOfMarrow_6 rfl ?_
  refine e_iadd dX4_sizeOfMarrow_7 ?_
  refine e_iald dX4_sizeOfMarrow_8 rfl (16 + p) (j_add rfl rfl) (by omega) (by decide) ?_
  refine e_iconst (v := 5) dX4_sizeOfMarrow_9 rfl ?_
  refine e_icmp_ne 27 dX4_sizeOfMarrow_10 (by decide) (fun c10 => ?_) (fun c10 => ?_)
  · refine e_aload_n dX4_sizeOfMarrow_27 rfl ?_
    refine e_iload_n dX4_sizeOfMarrow_28 rfl ?_
    refine e_callVi (n := 1) mX4_marrowSize [.int (nI p)] dX4_sizeOfMarrow_29 ckX4_233 rfl (by decide +kernel) rfl rfl rfl rfl (Nat.le_of_ble_eq_true rfl) ⟨Nat.zero_le _, Nat.zero_le _⟩ (s_DmarrowSize m p hp ht) (fun v29 mz hmz => ?_)
    obtain ⟨e1, e2⟩ := hmz
    subst e1
    exact e_iret dX4_sizeOfMarrow_32 rfl (⟨by unfold sizMar; first | rw [if_pos c10] | rw [if_neg c10], by unfold sizMarB; (first | rw [if_pos c10] | rw [if_neg c10]); exact e2⟩)
  · refine e_aload_n dX4_sizeOfMarrow_13 rfl ?_
    refine e_bipush (v := 14) dX4_sizeOfMarrow_14 rfl ?_
    refine e_callVv (n := 1) mX4_begin [.int 14] dX4_sizeOfMarrow_16 ckX4_227 rfl (by decide +kernel) rfl rfl rfl rfl (Nat.le_of_ble_eq_true rfl) ⟨Nat.zero_le _, Nat.zero_le _⟩ (s_begin m 14 ht) (fun m2 hm2 => ?_)
    obtain rfl := hm2
    refine e_iconst (v := 2) dX4_sizeOfMarrow_19 rfl ?_
    refine e_aload_n dX4_sizeOfMarrow_20 rfl ?_
    refine e_iload_n dX4_sizeOfMarrow_21 rfl ?_
    refine e_callVi (n := 1) mX4_marrowSize [.int (nI p)] dX4_sizeOfMarrow_22 ckX4_233 rfl (by decide +kernel) rfl rfl rfl rfl (Nat.le_of_ble_eq_true rfl) ⟨Nat.zero_le _, Nat.zero_le _⟩ (s_DmarrowSize (begM m 14) p hp (trD_b 14 ht)) (fun v22 mz hmz => ?_)
    obtain ⟨e1, e2⟩ := hmz
    simp only [begM_o (show (102 : Nat) ≠ 98 by decide) (show (102 : Nat) ≠ 112 by decide)] at e1
    subst e1
    refine e_imul dX4_sizeOfMarrow_25 ?_
    exact e_iret dX4_sizeOfMarrow_26 rfl (⟨by unfold sizMar; first | rw [if_pos c10] | rw [if_neg c10], by unfold sizMarB; (first | rw [if_pos c10] | rw [if_neg c10]); exact e2⟩)

set_option maxHeartbeats 2000000 in
set_option maxRecDepth 20000 in
theorem s_DmarkOf (m : jM) (p : Nat) (hp : p < 5) (ht : trD m) : iX mX4_markOf [.ref 98, .int (nI p)] m (fun v m1 => v = markV (m 102 (16 + p)) (nI p) (m 102 (26 + p)) (m 102 (36 + p)) ∧ bgs m (markB (m 102 (16 + p))) = m1) := by
  refine jX_of (L := [some (.ref 98), some (.int (nI p)), none, none]) 2 rfl rfl (by decide +kernel) rfl ?_
  refine e_aload_n dX4_markOf_0 rfl ?_
  refine e_getR (o := 4) (b := 102) dX4_markOf_1 lkX4_19 rfl rfl (by decide) rfl ?_
  refine e_bipush (v := 16) dX4_markOf_4 rfl ?_
  refine e_iload_n dX4_markOf_6 rfl ?_
  refine e_iadd dX4_markOf_7 ?_
  refine e_iald dX4_markOf_8 rfl (16 + p) (j_add rfl rfl) (by omega) (by decide) ?_
  refine e_istore_n (L' := [some (.ref 98), some (.int (nI p)), some (.int (m 102 (16 + p))), none]) dX4_markOf_9 (Nat.le_of_ble_eq_true rfl) (Nat.le_of_ble_eq_true rfl) (jnl_at (i := 1) rfl) rfl ?_
  refine e_iload_n dX4_markOf_10 rfl ?_
  refine e_iconst (v := 2) dX4_markOf_11 rfl ?_
  refine e_icmp_ne 29 dX4_markOf_12 (by decide) (fun c12 => ?_) (fun c12 => ?_)
  · refine e_iload_n dX4_markOf_29 rfl ?_
    refine e_iconst (v := 3) dX4_markOf_30 rfl ?_
    refine e_icmp_ne 50 dX4_markOf_31 (by decide) (fun c31 => ?_) (fun c31 => ?_)
    · refine e_iload_n dX4_markOf_50 rfl ?_
      refine e_iconst (v := 1) dX4_markOf_51 rfl ?_
      refine e_icmp_ne 61 dX4_markOf_52 (by decide) (fun c52 => ?_) (fun c52 => ?_)
      · refine e_aload_n dX4_markOf_61 rfl ?_
        refine e_bipush (v := 23) dX4_markOf_62 rfl ?_
        refine e_callVv (n := 1) mX4_begin [.int 23] dX4_markOf_64 ckX4_227 rfl (by decide +kernel) rfl rfl rfl rfl (Nat.le_of_ble_eq_true rfl) ⟨Nat.zero_le _, Nat.zero_le _⟩ (s_begin m 23 ht) (fun m1 hm1 => ?_)
        obtain rfl := hm1
        refine e_aload_n dX4_markOf_67 rfl ?_
        refine e_iload_n dX4_markOf_68 rfl ?_
        refine e_bipush (v := 20) dX4_markOf_69 rfl ?_
        refine e_callVi (n := 2) mX4_lent [.int (nI p), .int 20] dX4_markOf_71 ckX4_230 rfl (by decide +kernel) rfl rfl rfl rfl (Nat.le_of_ble_eq_true rfl) ⟨Nat.zero_le _, Nat.zero_le _⟩ (s_lent (begM m 23) p hp 20 (trD_b 23 ht)) (fun v71 m2 hm2 => ?_)
        obtain ⟨e1, rfl⟩ := hm2
        rw [show (if (20 : Int32) = 10 then (begM m 23) 102 (26 + p) else nI p) = nI p from by rw [if_neg (by decide)]] at e1
        subst e1
        refine e_istore_n (L' := [some (.ref 98), some (.int (nI p)), some (.int (m 102 (16 + p))), some (.int (nI p))]) dX4_markOf_74 (Nat.le_of_ble_eq_true rfl) (Nat.le_of_ble_eq_true rfl) (jnl_at (i := 2) rfl) rfl ?_
        refine e_iload_n dX4_markOf_75 rfl ?_
        refine e_aload_n dX4_markOf_76 rfl ?_
        refine e_iload_n dX4_markOf_77 rfl ?_
        refine e_callVi (n := 1) mX4_sizeOfMarrow [.int (nI p)] dX4_markOf_78 ckX4_239 rfl (by decide +kernel) rfl rfl rfl rfl (Nat.le_of_ble_eq_true rfl) ⟨Nat.zero_le _, Nat.zero_le _⟩ (s_DsizeOfMarrow (begM (begM m 23) 20) p hp (trD_b 20 (trD_b 23 ht))) (fun v78 mz hmz => ?_)
        obtain ⟨e1, e2⟩ := hmz
        simp only [begM_o (show (102 : Nat) ≠ 98 by decide) (show (102 : Nat) ≠ 112 by decide)] at e1 e2
        subst e1
        refine e_isub dX4_markOf_81 ?_
        exact e_iret dX4_markOf_82 rfl (⟨by unfold markV; (first | rw [if_pos c12] | rw [if_neg c12, if_pos c31] | rw [if_neg c12, if_neg c31, if_pos c52] | rw [if_neg c12, if_neg c31, if_neg c52]), by unfold markB; (first | rw [if_pos c12] | rw [if_neg c12, if_pos c31] | rw [if_neg c12, if_neg c31, if_pos c52] | rw [if_neg c12, if_neg c31, if_neg c52]); exact e2⟩)
      · refine e_aload_n dX4_markOf_55 rfl ?_
        refine e_iload_n dX4_markOf_56 rfl ?_
        refine e_callVi (n := 1) mX4_plumMark [.int (nI p)] dX4_markOf_57 ckX4_236 rfl (by decide +kernel) rfl rfl rfl rfl (Nat.le_of_ble_eq_true rfl) ⟨Nat.zero_le _, Nat.zero_le _⟩ (s_DplumMark m p hp ht) (fun v57 mz hmz => ?_)
        obtain ⟨e1, e2⟩ := hmz
        subst e1
        exact e_iret dX4_markOf_60 rfl (⟨by unfold markV; (first | rw [if_pos c12] | rw [if_neg c12, if_pos c31] | rw [if_neg c12, if_neg c31, if_pos c52] | rw [if_neg c12, if_neg c31, if_neg c52]), by unfold markB; (first | rw [if_pos c12] | rw [if_neg c12, if_pos c31] | rw [if_neg c12, if_neg c31, if_pos c52] | rw [if_neg c12, if_neg c31, if_neg c52]); exact e2⟩)
    · refine e_aload_n dX4_markOf_34 rfl ?_
      refine e_bipush (v := 22) dX4_markOf_35 rfl ?_
      refine e_callVv (n := 1) mX4_begin [.int 22] dX4_markOf_37 ckX4_227 rfl (by decide +kernel) rfl rfl rfl rfl (Nat.le_of_ble_eq_true rfl) ⟨Nat.zero_le _, Nat.zero_le _⟩ (s_begin m 22 ht) (fun m5 hm5 => ?_)
      obtain rfl := hm5
      refine e_aload_n dX4_markOf_40 rfl ?_
      refine e_iload_n dX4_markOf_41 rfl ?_
      refine e_callVi (n := 1) mX4_plumMark [.int (nI p)] dX4_markOf_42 ckX4_236 rfl (by decide +kernel) rfl rfl rfl rfl (Nat.le_of_ble_eq_true rfl) ⟨Nat.zero_le _, Nat.zero_le _⟩ (s_DplumMark (begM m 22) p hp (trD_b 22 ht)) (fun v42 mz hmz => ?_)
      obtain ⟨e1, e2⟩ := hmz
      simp only [begM_o (show (102 : Nat) ≠ 98 by decide) (show (102 : Nat) ≠ 112 by decide)] at e1
      subst e1
      refine e_sipush (v := 1000) dX4_markOf_45 rfl ?_
      refine e_isub dX4_markOf_48 ?_
      exact e_iret dX4_markOf_49 rfl (⟨by unfold markV; (first | rw [if_pos c12] | rw [if_neg c12, if_pos c31] | rw [if_neg c12, if_neg c31, if_pos c52] | rw [if_neg c12, if_neg c31, if_neg c52]), by unfold markB; (first | rw [if_pos c12] | rw [if_neg c12, if_pos c31] | rw [if_neg c12, if_neg c31, if_pos c52] | rw [if_neg c12, if_neg c31, if_neg c52]); exact e2⟩)
  · refine e_aload_n dX4_markOf_15 rfl ?_
    refine e_bipush (v := 24) dX4_markOf_16 rfl ?_
    refine e_callVv (n := 1) mX4_begin [.int 24] dX4_markOf_18 ckX4_227 rfl (by decide +kernel) rfl rfl rfl rfl (Nat.le_of_ble_eq_true rfl) ⟨Nat.zero_le _, Nat.zero_le _⟩ (s_begin m 24 ht) (fun m7 hm7 => ?_)
    obtain rfl := hm7
    refine e_iconst (v := 2) dX4_markOf_21 rfl ?_
    refine e_aload_n dX4_markOf_22 rfl ?_
    refine e_iload_n dX4_markOf_23 rfl ?_
    refine e_callVi (n := 1) mX4_plumMark [.int (nI p)] dX4_markOf_24 ckX4_236 rfl (by decide +kernel) rfl rfl rfl rfl (Nat.le_of_ble_eq_true rfl) ⟨Nat.zero_le _, Nat.zero_le _⟩ (s_DplumMark (begM m 24) p hp (trD_b 24 ht)) (fun v24 mz hmz => ?_)
    obtain ⟨e1, e2⟩ := hmz
    simp only [begM_o (show (102 : Nat) ≠ 98 by decide) (show (102 : Nat) ≠ 112 by decide)] at e1
    subst e1
    refine e_imul dX4_markOf_27 ?_
    exact e_iret dX4_markOf_28 rfl (⟨by unfold markV; (first | rw [if_pos c12] | rw [if_neg c12, if_pos c31] | rw [if_neg c12, if_neg c31, if_pos c52] | rw [if_neg c12, if_neg c31, if_neg c52]), by unfold markB; (first | rw [if_pos c12] | rw [if_neg c12, if_pos c31] | rw [if_neg c12, if_neg c31, if_pos c52] | rw [if_neg c12, if_neg c31, if_neg c52]); exact e2⟩)

set_option maxHeartbeats 2000000 in
set_option maxRecDepth 20000 in
theorem s_DplumSize (m : jM) (p : Nat) (hp : p < 5) (ht : trD m) : iX mX4_plumSize [.ref 98, .int (nI p)] m (fun v m1 => v = m 102 (26 + p) + markV (m 102 (16 + p)) (nI p) (m 102 (26 + p)) (m 102 (36 + p)) ∧ bgs m (11 :: 10 :: markB (m 102 (16 + p))) = m1) := by
  refine jX_of (L := [some (.ref 98), some (.int (nI p)), none]) 1 rfl rfl (by decide +kernel) rfl ?_
  refine e_aload_n dX4_plumSize_0 rfl ?_
  refine e_bipush (v := 11) dX4_plumSize_1 rfl ?_
  refine e_callVv (n := 1) mX4_begin [.int 11] dX4_plumSize_3 ckX4_227 rfl (by decide +kernel) rfl rfl rfl rfl (Nat.le_of_ble_eq_true rfl) ⟨Nat.zero_le _, Nat.zero_le _⟩ (s_begin m 11 ht) (fun m1 hm1 => ?_)
  obtain rfl := hm1
  refine e_aload_n dX4_plumSize_6 rfl ?_
  refine e_iload_n dX4_plumSize_7 rfl ?_
  refine e_bipush (v := 10) dX4_plumSize_8 rfl ?_
  refine e_callVi (n := 2) mX4_lent [.int (nI p), .int 10] dX4_plumSize_10 ckX4_230 rfl (by decide +kernel) rfl rfl rfl rfl (Nat.le_of_ble_eq_true rfl) ⟨Nat.zero_le _, Nat.zero_le _⟩ (s_lent (begM m 11) p hp 10 (trD_b 11 ht)) (fun v10 m2 hm2 => ?_)
  obtain ⟨e1, rfl⟩ := hm2
  rw [show (if (10 : Int32) = 10 then (begM m 11) 102 (26 + p) else nI p) = m 102 (26 + p) from by rw [if_pos rfl]; simp only [begM_o (show (102 : Nat) ≠ 98 by decide) (show (102 : Nat) ≠ 112 by decide)]] at e1
  subst e1
  refine e_istore_n (L' := [some (.ref 98), some (.int (nI p)), some (.int (m 102 (26 + p)))]) dX4_plumSize_13 (Nat.le_of_ble_eq_true rfl) (Nat.le_of_ble_eq_true rfl) (jnl_at (i := 1) rfl) rfl ?_
  refine e_iload_n dX4_plumSize_14 rfl ?_
  refine e_aload_n dX4_plumSize_15 rfl ?_
  refine e_iload_n dX4_plumSize_16 rfl ?_
  refine e_callVi (n := 1) mX4_markOf [.int (nI p)] dX4_plumSize_17 ckX4_242 rfl (by decide +kernel) rfl rfl rfl rfl (Nat.le_of_ble_eq_true rfl) ⟨Nat.zero_le _, Nat.zero_le _⟩ (s_DmarkOf (begM (begM m 11) 10) p hp (trD_b 10 (trD_b 11 ht))) (fun v17 mz hmz => ?_)
  obtain ⟨e1, e2⟩ := hmz
  simp only [begM_o (show (102 : Nat) ≠ 98 by decide) (show (102 : Nat) ≠ 112 by decide)] at e1 e2
  subst e1
  refine e_iadd dX4_plumSize_20 ?_
  exact e_iret dX4_plumSize_21 rfl (⟨rfl, e2⟩)

set_option maxHeartbeats 2000000 in
set_option maxRecDepth 20000 in
theorem s_DsizeOf (m : jM) (p : Nat) (hp : p < 5) (ht : trD m) : iX mX4_sizeOf [.ref 98, .int (nI p)] m (fun v m1 => v = sizeV (m 102 (16 + p)) (nI p) (m 102 (26 + p)) (m 102 (36 + p)) ∧ bgs m (sizeB (m 102 (16 + p))) = m1) := by
  refine jX_of (L := [some (.ref 98), some (.int (nI p)), none]) 1 rfl rfl (by decide +kernel) rfl ?_
  refine e_aload_n dX4_sizeOf_0 rfl ?_
  refine e_getR (o := 4) (b := 102) dX4_sizeOf_1 lkX4_19 rfl rfl (by decide) rfl ?_
  refine e_bipush (v := 16) dX4_sizeOf_4 rfl ?_
  refine e_iload_n dX4_sizeOf_6 rfl ?_
  refine e_iadd dX4_sizeOf_7 ?_
  refine e_iald dX4_sizeOf_8 rfl (16 + p) (j_add rfl rfl) (by omega) (by decide) ?_
  refine e_istore_n (L' := [some (.ref 98), some (.int (nI p)), some (.int (m 102 (16 + p)))]) dX4_sizeOf_9 (Nat.le_of_ble_eq_true rfl) (Nat.le_of_ble_eq_true rfl) (jnl_at (i := 1) rfl) rfl ?_
  refine e_iload_n dX4_sizeOf_10 rfl ?_
  refine e_iconst (v := 2) dX4_sizeOf_11 rfl ?_
  refine e_icmp_ne 28 dX4_sizeOf_12 (by decide) (fun c12 => ?_) (fun c12 => ?_)
  · refine e_iload_n dX4_sizeOf_28 rfl ?_
    refine e_iconst (v := 4) dX4_sizeOf_29 rfl ?_
    refine e_icmp_lt 41 dX4_sizeOf_30 (by decide) (fun c30 => ?_) (fun c30 => ?_)
    · refine e_aload_n dX4_sizeOf_41 rfl ?_
      refine e_iload_n dX4_sizeOf_42 rfl ?_
      refine e_callVi (n := 1) mX4_plumSize [.int (nI p)] dX4_sizeOf_43 ckX4_245 rfl (by decide +kernel) rfl rfl rfl rfl (Nat.le_of_ble_eq_true rfl) ⟨Nat.zero_le _, Nat.zero_le _⟩ (s_DplumSize m p hp ht) (fun v43 mz hmz => ?_)
      obtain ⟨e1, e2⟩ := hmz
      subst e1
      exact e_iret dX4_sizeOf_46 rfl (⟨by unfold sizeV; (first | rw [if_pos c12] | rw [if_neg c12, if_pos (Int32.not_lt.mp c30)] | rw [if_neg c12, if_neg (Int32.not_le.mpr c30)]), by unfold sizeB; (first | rw [if_pos c12] | rw [if_neg c12, if_pos (Int32.not_lt.mp c30)] | rw [if_neg c12, if_neg (Int32.not_le.mpr c30)]); exact e2⟩)
    · refine e_aload_n dX4_sizeOf_33 rfl ?_
      refine e_iload_n dX4_sizeOf_34 rfl ?_
      refine e_callVi (n := 1) mX4_sizeOfMarrow [.int (nI p)] dX4_sizeOf_35 ckX4_239 rfl (by decide +kernel) rfl rfl rfl rfl (Nat.le_of_ble_eq_true rfl) ⟨Nat.zero_le _, Nat.zero_le _⟩ (s_DsizeOfMarrow m p hp ht) (fun v35 mz hmz => ?_)
      obtain ⟨e1, e2⟩ := hmz
      subst e1
      refine e_goto 46 dX4_sizeOf_38 (by decide) ?_
      exact e_iret dX4_sizeOf_46 rfl (⟨by unfold sizeV; (first | rw [if_pos c12] | rw [if_neg c12, if_pos (Int32.not_lt.mp c30)] | rw [if_neg c12, if_neg (Int32.not_le.mpr c30)]), by unfold sizeB; (first | rw [if_pos c12] | rw [if_neg c12, if_pos (Int32.not_lt.mp c30)] | rw [if_neg c12, if_neg (Int32.not_le.mpr c30)]); exact e2⟩)
  · refine e_aload_n dX4_sizeOf_15 rfl ?_
    refine e_bipush (v := 12) dX4_sizeOf_16 rfl ?_
    refine e_callVv (n := 1) mX4_begin [.int 12] dX4_sizeOf_18 ckX4_227 rfl (by decide +kernel) rfl rfl rfl rfl (Nat.le_of_ble_eq_true rfl) ⟨Nat.zero_le _, Nat.zero_le _⟩ (s_begin m 12 ht) (fun m3 hm3 => ?_)
    obtain rfl := hm3
    refine e_aload_n dX4_sizeOf_21 rfl ?_
    refine e_iload_n dX4_sizeOf_22 rfl ?_
    refine e_callVi (n := 1) mX4_plumSize [.int (nI p)] dX4_sizeOf_23 ckX4_245 rfl (by decide +kernel) rfl rfl rfl rfl (Nat.le_of_ble_eq_true rfl) ⟨Nat.zero_le _, Nat.zero_le _⟩ (s_DplumSize (begM m 12) p hp (trD_b 12 ht)) (fun v23 mz hmz => ?_)
    obtain ⟨e1, e2⟩ := hmz
    simp only [begM_o (show (102 : Nat) ≠ 98 by decide) (show (102 : Nat) ≠ 112 by decide)] at e1 e2
    subst e1
    refine e_ineg dX4_sizeOf_26 ?_
    exact e_iret dX4_sizeOf_27 rfl (⟨by unfold sizeV; (first | rw [if_pos c12] | rw [if_neg c12, if_pos (Int32.not_lt.mp c30)] | rw [if_neg c12, if_neg (Int32.not_le.mpr c30)]), by unfold sizeB; (first | rw [if_pos c12] | rw [if_neg c12, if_pos (Int32.not_lt.mp c30)] | rw [if_neg c12, if_neg (Int32.not_le.mpr c30)]); exact e2⟩)

set_option maxHeartbeats 2000000 in
set_option maxRecDepth 20000 in
theorem s_Dask_b (m : jM) (x w : Int32) (P : Nat) (hP : P ≤ 5) (h2 : m 102 2 = nI P) (hb : ¬ (inN x P ∧ inN w 2)) : iX mX4_ask [.ref 98, .int x, .int w] m (fun v m1 => v = -1000001 ∧ m = m1) := by
  refine jX_of (L := [some (.ref 98), some (.int x), some (.int w)]) 0 rfl rfl (by decide +kernel) rfl ?_
  refine e_aload_n dX4_ask_0 rfl ?_
  refine e_iload_n dX4_ask_1 rfl ?_
  refine e_callVi (n := 1) mX4_isPan [.int x] dX4_ask_2 ckX4_171 rfl (by decide +kernel) rfl rfl rfl rfl (Nat.le_of_ble_eq_true rfl) ⟨Nat.zero_le _, Nat.zero_le _⟩ (s_panN x m P hP h2) (fun v2 m1 hm1 => ?_)
  rcases hm1 with ⟨rfl, ⟨rfl, q⟩ | ⟨rfl, q⟩⟩
  · refine e_if_eq 18 dX4_ask_5 (by decide) (fun h => absurd h (by decide)) (fun c5 => ?_)
    refine e_iload_n dX4_ask_8 rfl ?_
    refine e_i2l dX4_ask_9 ?_
    refine e_lconst (v := 0) dX4_ask_10 rfl ?_
    refine e_lconst (v := 1) dX4_ask_11 rfl ?_
    refine e_callSi (n := 3) mX4_in [.long (Int32.toInt64 w), .long 0, .long 1] dX4_ask_12 ckX4_60 rfl (by decide +kernel) rfl rfl (Nat.le_of_ble_eq_true rfl) ⟨Nat.zero_le _, Nat.zero_le _⟩ (s_inN w 1 2 (by decide) (by decide) m) (fun v12 m2 hm2 => ?_)
    rcases hm2 with ⟨rfl, ⟨rfl, q2⟩ | ⟨rfl, q2⟩⟩
    · exact False.elim (hb ⟨q, q2⟩)
    · refine e_if_ne 21 dX4_ask_15 (by decide) (fun h => absurd h (by decide)) (fun c15 => ?_)
      refine e_ldc dX4_ask_18 kkX4_70 ?_
      exact e_iret dX4_ask_20 rfl (⟨rfl, rfl⟩)
  · refine e_if_eq 18 dX4_ask_5 (by decide) (fun c5 => ?_) (fun h => absurd h (by decide))
    refine e_ldc dX4_ask_18 kkX4_70 ?_
    exact e_iret dX4_ask_20 rfl (⟨rfl, rfl⟩)

set_option maxHeartbeats 2000000 in
set_option maxRecDepth 20000 in
theorem s_Dask0 (m : jM) (p : Nat) (P : Nat) (hP : P ≤ 5) (h2 : m 102 2 = nI P) (hp : p < P) : iX mX4_ask [.ref 98, .int (nI p), .int 0] m (fun v m1 => v = sizeV (m 102 (16 + p)) (nI p) (m 102 (26 + p)) (m 102 (36 + p)) ∧ bgs (jst m 98 25 0) (sizeB (m 102 (16 + p))) = m1) := by
  refine jX_of (L := [some (.ref 98), some (.int (nI p)), some (.int 0)]) 0 rfl rfl (by decide +kernel) rfl ?_
  refine e_aload_n dX4_ask_0 rfl ?_
  refine e_iload_n dX4_ask_1 rfl ?_
  refine e_callVi (n := 1) mX4_isPan [.int (nI p)] dX4_ask_2 ckX4_171 rfl (by decide +kernel) rfl rfl rfl rfl (Nat.le_of_ble_eq_true rfl) ⟨Nat.zero_le _, Nat.zero_le _⟩ (s_panN (nI p) m P hP h2) (fun v2 m1 hm1 => ?_)
  rcases hm1 with ⟨rfl, ⟨rfl, q⟩ | ⟨rfl, q⟩⟩
  · refine e_if_eq 18 dX4_ask_5 (by decide) (fun h => absurd h (by decide)) (fun c5 => ?_)
    refine e_iload_n dX4_ask_8 rfl ?_
    refine e_i2l dX4_ask_9 ?_
    refine e_lconst (v := 0) dX4_ask_10 rfl ?_
    refine e_lconst (v := 1) dX4_ask_11 rfl ?_
    refine e_callSi (n := 3) mX4_in [.long (Int32.toInt64 0), .long 0, .long 1] dX4_ask_12 ckX4_60 rfl (by decide +kernel) rfl rfl (Nat.le_of_ble_eq_true rfl) ⟨Nat.zero_le _, Nat.zero_le _⟩ (s_inN 0 1 2 (by decide) (by decide) m) (fun v12 m2 hm2 => ?_)
    rcases hm2 with ⟨rfl, ⟨rfl, q2⟩ | ⟨rfl, q2⟩⟩
    · refine e_if_ne 21 dX4_ask_15 (by decide) (fun c15 => ?_) (fun h => absurd h (by decide))
      refine e_aload_n dX4_ask_21 rfl ?_
      refine e_iconst (v := 0) dX4_ask_22 rfl ?_
      refine e_putI dX4_ask_23 lkX4_224 rfl rfl fwX4_25 (Or.inl rfl) (fun ma hma => ?_)
      refine e_iload_n dX4_ask_26 rfl ?_
      refine e_if_ne 38 dX4_ask_27 (by decide) (fun h => absurd h (by decide)) (fun c27 => ?_)
      refine e_aload_n dX4_ask_30 rfl ?_
      refine e_iload_n dX4_ask_31 rfl ?_
      refine e_callVi (n := 1) mX4_sizeOf [.int (nI p)] dX4_ask_32 ckX4_248 rfl (by decide +kernel) rfl rfl rfl rfl (Nat.le_of_ble_eq_true rfl) ⟨Nat.zero_le _, Nat.zero_le _⟩ (s_DsizeOf ma p (by omega) ⟨0, by omega, by rw [hma, jup_s, upd_s]; rfl⟩) (fun v32 mz hmz => ?_)
      obtain ⟨e1, e2⟩ := hmz
      simp only [hma, jup_n _ _ (show (102 : Nat) ≠ 98 by decide)] at e1 e2
      refine e_goto 43 dX4_ask_35 (by decide) ?_
      exact e_iret dX4_ask_43 rfl (⟨e1, e2⟩)
    · exact False.elim (q2 (by unfold inN; decide))
  · exact False.elim (q (inN_nI (by omega) hp))

set_option maxHeartbeats 2000000 in
set_option maxRecDepth 20000 in
theorem s_Dask1 (m : jM) (p : Nat) (P : Nat) (hP : P ≤ 5) (h2 : m 102 2 = nI P) (hp : p < P) : iX mX4_ask [.ref 98, .int (nI p), .int 1] m (fun v m1 => v = markV (m 102 (16 + p)) (nI p) (m 102 (26 + p)) (m 102 (36 + p)) ∧ bgs (jst m 98 25 0) (markB (m 102 (16 + p))) = m1) := by
  refine jX_of (L := [some (.ref 98), some (.int (nI p)), some (.int 1)]) 0 rfl rfl (by decide +kernel) rfl ?_
  refine e_aload_n dX4_ask_0 rfl ?_
  refine e_iload_n dX4_ask_1 rfl ?_
  refine e_callVi (n := 1) mX4_isPan [.int (nI p)] dX4_ask_2 ckX4_171 rfl (by decide +kernel) rfl rfl rfl rfl (Nat.le_of_ble_eq_true rfl) ⟨Nat.zero_le _, Nat.zero_le _⟩ (s_panN (nI p) m P hP h2) (fun v2 m1 hm1 => ?_)
  rcases hm1 with ⟨rfl, ⟨rfl, q⟩ | ⟨rfl, q⟩⟩
  · refine e_if_eq 18 dX4_ask_5 (by decide) (fun h => absurd h (by decide)) (fun c5 => ?_)
    refine e_iload_n dX4_ask_8 rfl ?_
    refine e_i2l dX4_ask_9 ?_
    refine e_lconst (v := 0) dX4_ask_10 rfl ?_
    refine e_lconst (v := 1) dX4_ask_11 rfl ?_
    refine e_callSi (n := 3) mX4_in [.long (Int32.toInt64 1), .long 0, .long 1] dX4_ask_12 ckX4_60 rfl (by decide +kernel) rfl rfl (Nat.le_of_ble_eq_true rfl) ⟨Nat.zero_le _, Nat.zero_le _⟩ (s_inN 1 1 2 (by decide) (by decide) m) (fun v12 m2 hm2 => ?_)
    rcases hm2 with ⟨rfl, ⟨rfl, q2⟩ | ⟨rfl, q2⟩⟩
    · refine e_if_ne 21 dX4_ask_15 (by decide) (fun c15 => ?_) (fun h => absurd h (by decide))
      refine e_aload_n dX4_ask_21 rfl ?_
      refine e_iconst (v := 0) dX4_ask_22 rfl ?_
      refine e_putI dX4_ask_23 lkX4_224 rfl rfl fwX4_25 (Or.inl rfl) (fun ma hma => ?_)
      refine e_iload_n dX4_ask_26 rfl ?_
      refine e_if_ne 38 dX4_ask_27 (by decide) (fun c27 => ?_) (fun h => absurd h (by decide))
      refine e_aload_n dX4_ask_38 rfl ?_
      refine e_iload_n dX4_ask_39 rfl ?_
      refine e_callVi (n := 1) mX4_markOf [.int (nI p)] dX4_ask_40 ckX4_242 rfl (by decide +kernel) rfl rfl rfl rfl (Nat.le_of_ble_eq_true rfl) ⟨Nat.zero_le _, Nat.zero_le _⟩ (s_DmarkOf ma p (by omega) ⟨0, by omega, by rw [hma, jup_s, upd_s]; rfl⟩) (fun v40 mz hmz => ?_)
      obtain ⟨e1, e2⟩ := hmz
      simp only [hma, jup_n _ _ (show (102 : Nat) ≠ 98 by decide)] at e1 e2
      exact e_iret dX4_ask_43 rfl (⟨e1, e2⟩)
    · exact False.elim (q2 (by unfold inN; decide))
  · exact False.elim (q (inN_nI (by omega) hp))

set_option maxHeartbeats 2000000 in
set_option maxRecDepth 20000 in
theorem s_Dtrace (m : jM) (x : Int32) (k : Nat) (hk : k ≤ 16) (e : m 98 25 = nI k) : iX mX4_trace [.ref 98, .int x] m (fun v m1 => m = m1 ∧ ((∃ j, j < k ∧ x = nI j ∧ v = m 112 j) ∨ (¬ inN x k ∧ v = -1000000))) := by
  refine jX_of (L := [some (.ref 98), some (.int x)]) 0 rfl rfl (by decide +kernel) rfl ?_
  refine e_iload_n dX4_trace_0 rfl ?_
  refine e_i2l dX4_trace_1 ?_
  refine e_lconst (v := 0) dX4_trace_2 rfl ?_
  refine e_aload_n dX4_trace_3 rfl ?_
  refine e_getI dX4_trace_4 lkX4_224 rfl rfl ?_
  rw [show m 98 25 = nI k from e]
  refine e_iconst (v := 1) dX4_trace_7 rfl ?_
  refine e_isub dX4_trace_8 ?_
  refine e_i2l dX4_trace_9 ?_
  refine e_callSi (n := 3) mX4_in [.long (Int32.toInt64 x), .long 0, .long (Int32.toInt64 ((nI k) - 1))] dX4_trace_10 ckX4_60 rfl (by decide +kernel) rfl rfl (Nat.le_of_ble_eq_true rfl) ⟨Nat.zero_le _, Nat.zero_le _⟩ (s_inP x k (by omega) m) (fun v10 m1 hm1 => ?_)
  rcases hm1 with ⟨rfl, ⟨rfl, q⟩ | ⟨rfl, q⟩⟩
  · refine e_if_eq 25 dX4_trace_13 (by decide) (fun h => absurd h (by decide)) (fun c13 => ?_)
    obtain ⟨j, hj, rfl⟩ := inN_of (by omega) q
    refine e_aload_n dX4_trace_16 rfl ?_
    refine e_getR (o := 14) (b := 112) dX4_trace_17 lkX4_50 rfl rfl (by decide) rfl ?_
    refine e_iload_n dX4_trace_20 rfl ?_
    refine e_iald dX4_trace_21 rfl j rfl (by omega) (by decide) ?_
    refine e_goto 27 dX4_trace_22 (by decide) ?_
    exact e_iret dX4_trace_27 rfl (⟨rfl, Or.inl ⟨j, hj, rfl, rfl⟩⟩)
  · refine e_if_eq 25 dX4_trace_13 (by decide) (fun c13 => ?_) (fun h => absurd h (by decide))
    refine e_ldc dX4_trace_25 kkX4_127 ?_
    exact e_iret dX4_trace_27 rfl (⟨rfl, Or.inr ⟨q, rfl⟩⟩)
