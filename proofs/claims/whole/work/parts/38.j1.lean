/-! ===== the class's public methods: rows, pans, acts ===== -/
theorem canA_up {st v : Nat → Int32} {V : Nat} (h : canA st v V V = true) : ∀ d, canA st v V (V + d) = true
  | 0 => h
  | d + 1 => by
    rw [show V + (d + 1) = (V + d) + 1 from rfl, canA_t (Or.inl (by omega))]
    exact canA_up h d
theorem canA_no {st v : Nat → Int32} {V k : Nat} (h : canA st v V k = false) : ∀ d, canA st v V (k + d) = false
  | 0 => h
  | d + 1 => by
    rw [show k + (d + 1) = (k + d) + 1 from rfl]
    show (_ && _) = false
    rw [canA_no h d]
    rfl
theorem canA_3t {st v : Nat → Int32} {V : Nat} (hV : V ≤ 3) (h : canA st v V V = true) : canA st v V 3 = true := by
  have := canA_up h (3 - V)
  rwa [show V + (3 - V) = 3 by omega] at this
theorem canA_3f {st v : Nat → Int32} {V k : Nat} (hk : k < V) (hV : V ≤ 3) (h : ¬ canB st k (v k) = true) : canA st v V 3 = false := by
  have := canA_no (canA_f hk h) (3 - (k + 1))
  rwa [show k + 1 + (3 - (k + 1)) = 3 by omega] at this
theorem u3_at (f : Nat → Int32) (a b c : Int32) : ∀ s, s < 3 → (upd (upd (upd f 0 a) 1 b) 2 c) s = nt3 a b c s := by
  intro s hs
  have : s = 0 ∨ s = 1 ∨ s = 2 := by omega
  rcases this with rfl | rfl | rfl <;> rfl
theorem upd_67 (f : Nat → Int32) (x y : Int32) : upd (upd f 7 x) 6 y 6 = y := upd_s _ _ _
theorem inN_7 {x : Int32} (h : inN x 8) (h7 : 7 ≤ x) : x = 7 := by
  obtain ⟨k, hk, rfl⟩ := inN_of (by decide) h
  have := (j_le (a := 7) (b := k) (by decide) (by omega)).mp h7
  rw [show k = 7 by omega]
  rfl
theorem kp1 : ∀ k, k < 6 → 1 ≤ k → kindP (nI k) (nI 1) → k = 1 ∨ k = 2 ∨ k = 3 := by
  intro k hk h1
  have h : (List.range 6).all (fun k => decide (1 ≤ k → (nI 1 = 0 ∨ nI k = nI 1 ∨ (nI 1 = 1 ∧ nI k < 4) ∨ (nI 1 = 4 ∧ nI k = 5)) → k = 1 ∨ k = 2 ∨ k = 3)) = true := by decide +kernel
  exact of_decide_eq_true (List.all_eq_true.mp h k (List.mem_range.mpr hk)) h1
theorem kp4 : ∀ k, k < 6 → 1 ≤ k → ¬ kindP (nI k) (nI 1) → k = 4 ∨ k = 5 := by
  intro k hk h1
  have h : (List.range 6).all (fun k => decide (1 ≤ k → ¬ (nI 1 = 0 ∨ nI k = nI 1 ∨ (nI 1 = 1 ∧ nI k < 4) ∨ (nI 1 = 4 ∧ nI k = 5)) → k = 4 ∨ k = 5)) = true := by decide +kernel
  exact of_decide_eq_true (List.all_eq_true.mp h k (List.mem_range.mpr hk)) h1
theorem siz_mar {k p needs thick : Int32} (h : k = 4 ∨ k = 5) : sizeV k p needs thick = sizMar k needs := by
  unfold sizeV
  rw [if_neg (by rcases h with rfl | rfl <;> decide), if_pos (by rcases h with rfl | rfl <;> decide)]
theorem siz_marB {k : Int32} (h : k = 4 ∨ k = 5) : sizeB k = sizMarB k := by
  unfold sizeB
  rw [if_neg (by rcases h with rfl | rfl <;> decide), if_pos (by rcases h with rfl | rfl <;> decide)]
theorem rows_st {m : jM} {k x : Nat} (h : RW m k) (hx : (m (2 + 2 * k) 0 = 0 ∧ x = rowsN (m 100) k + 0) ∨ (¬ m (2 + 2 * k) 0 = 0 ∧ x = rowsN (m 100) k + 1)) : rowsN (m 100) (k + 1) = x := by
  show rowsN (m 100) k + (if 0 ≤ m 100 k then 1 else 0) = x
  rcases h with ⟨h0, h1⟩ | ⟨h0, n, hn, -, h1, -⟩
  · rcases hx with ⟨-, rfl⟩ | ⟨a, -⟩
    · rw [h1, if_neg (by decide)]
    · exact absurd h0 a
  · rcases hx with ⟨a, -⟩ | ⟨-, rfl⟩
    · rw [h0] at a; exact absurd a (by decide)
    · rw [h1, if_pos (nI_pos' (by omega))]
set_option maxHeartbeats 2000000 in
set_option maxRecDepth 20000 in
theorem s_CsetPansD (kc : Nat) (hk : isK kc) (m : jM) (st : Nat → Int32) (V P : Nat) (hP : P ≤ 5) (hdn : ∀ p, p < P → st (41 + p) = if st (26 + p) ≤ st (36 + p) then 1 else 0) (hR : RK m kc st V P) : iX mX0_setPans [.ref kc] m (fun v m1 => m = m1 ∧ v = setB st P) := by
  refine jX_of (L := [some (.ref kc), none, none]) 2 rfl rfl (by decide +kernel) rfl ?_
  refine e_iconst (v := 0) dX0_setPans_0 rfl ?_
  refine e_istore_n (L' := [some (.ref kc), some (.int 0), none]) dX0_setPans_1 (Nat.le_of_ble_eq_true rfl) (Nat.le_of_ble_eq_true rfl) (jnl_at (i := 0) rfl) rfl ?_
  refine e_iconst (v := 0) dX0_setPans_2 rfl ?_
  refine e_istore_n (L' := [some (.ref kc), some (.int 0), some (.int 0)]) dX0_setPans_3 (Nat.le_of_ble_eq_true rfl) (Nat.le_of_ble_eq_true rfl) (jnl_at (i := 1) rfl) rfl ?_
  refine e_loop 4 P (fun k => [some (.ref kc), some (.int (setB st k)), some (.int (nI k))]) (fun k => m) 0 (Nat.zero_le _) rfl (rfl) ?_ ?_
  · show jE _ _ 4 [some (.ref kc), some (.int (setB st P)), some (.int (nI P))] [] m
    refine e_iload_n dX0_setPans_4 rfl ?_
    refine e_aload_n dX0_setPans_5 rfl ?_
    refine e_getI dX0_setPans_6 lkX0_32 (isK.l0 hk) rfl ?_
    rw [show m kc 6 = nI P from hR.ps]
    refine e_icmp_ge 36 dX0_setPans_9 (by decide) (fun c9 => ?_) (fun h => absurd (j_done rfl rfl) h)
    refine e_iload_n dX0_setPans_36 rfl ?_
    exact e_iret dX0_setPans_37 rfl (⟨rfl, rfl⟩)
  · intro k hk_ ih
    show jE _ _ 4 [some (.ref kc), some (.int (setB st k)), some (.int (nI k))] [] m
    refine e_iload_n dX0_setPans_4 rfl ?_
    refine e_aload_n dX0_setPans_5 rfl ?_
    refine e_getI dX0_setPans_6 lkX0_32 (isK.l0 hk) rfl ?_
    rw [show m kc 6 = nI P from hR.ps]
    refine e_icmp_ge 36 dX0_setPans_9 (by decide) (fun h => absurd h (j_more (N := P) rfl rfl (by omega) (by omega))) (fun c9 => ?_)
    refine e_iload_n dX0_setPans_12 rfl ?_
    refine e_aload_n dX0_setPans_13 rfl ?_
    refine e_iload_n dX0_setPans_14 rfl ?_
    have hkP : k < P := hk_
    refine e_callVi (n := 1) mX0_isSet [.int (nI k)] dX0_setPans_15 ckX0_72 rfl (by decide +kernel) rfl (isK.l0 hk) rfl rfl (Nat.le_of_ble_eq_true rfl) ⟨Nat.zero_le _, Nat.zero_le _⟩ (s_Cset kc hk m st V P hP hR k hkP) (fun v15 m1 hm1 => ?_)
    rcases hm1 with ⟨rfl, ⟨rfl, q⟩ | ⟨rfl, q⟩⟩
    · refine e_if_eq 27 dX0_setPans_18 (by decide) (fun h => absurd h (by decide)) (fun c18 => ?_)
      refine e_iconst (v := 1) dX0_setPans_21 rfl ?_
      refine e_iload_n dX0_setPans_22 rfl ?_
      refine e_ishl dX0_setPans_23 ?_
      refine e_goto 28 dX0_setPans_24 (by decide) ?_
      refine e_ior dX0_setPans_28 ?_
      refine e_istore_n (L' := [some (.ref kc), some (.int ((setB st k) ||| (1 <<< ((nI k) &&& 31)))), some (.int (nI k))]) dX0_setPans_29 (Nat.le_of_ble_eq_true rfl) (Nat.le_of_ble_eq_true rfl) (jnl_at (i := 0) rfl) rfl ?_
      refine e_iinc (v := nI (k + 1)) (L' := [some (.ref kc), some (.int ((setB st k) ||| (1 <<< ((nI k) &&& 31)))), some (.int (nI (k + 1)))]) dX0_setPans_30 rfl (j_inc rfl) (by decide) (jnl_at (i := 1) rfl) rfl ?_
      refine e_goto 4 dX0_setPans_33 (by decide) ?_
      have e : (setB st k) ||| (1 <<< ((nI k) &&& 31)) = setB st (k + 1) := by
        rw [show setB st (k + 1) = setB st k ||| (st (41 + k) <<< (nI k &&& 31)) from rfl, hdn k hkP]
        first | (rw [if_pos q]) | (rw [if_neg q, shl0 k (by omega)])
      rw [e]
      exact ih
    · refine e_if_eq 27 dX0_setPans_18 (by decide) (fun c18 => ?_) (fun h => absurd h (by decide))
      refine e_iconst (v := 0) dX0_setPans_27 rfl ?_
      refine e_ior dX0_setPans_28 ?_
      refine e_istore_n (L' := [some (.ref kc), some (.int ((setB st k) ||| 0)), some (.int (nI k))]) dX0_setPans_29 (Nat.le_of_ble_eq_true rfl) (Nat.le_of_ble_eq_true rfl) (jnl_at (i := 0) rfl) rfl ?_
      refine e_iinc (v := nI (k + 1)) (L' := [some (.ref kc), some (.int ((setB st k) ||| 0)), some (.int (nI (k + 1)))]) dX0_setPans_30 rfl (j_inc rfl) (by decide) (jnl_at (i := 1) rfl) rfl ?_
      refine e_goto 4 dX0_setPans_33 (by decide) ?_
      have e : (setB st k) ||| 0 = setB st (k + 1) := by
        rw [show setB st (k + 1) = setB st k ||| (st (41 + k) <<< (nI k &&& 31)) from rfl, hdn k hkP]
        first | (rw [if_pos q]) | (rw [if_neg q, shl0 k (by omega)])
      rw [e]
      exact ih

set_option maxHeartbeats 2000000 in
set_option maxRecDepth 20000 in
theorem s_Jrow_b (m : jM) (x l n : Int32) (hb : ¬ (inN x 8 ∧ inN l 3 ∧ n ≤ 40)) : iX mX3_row [.ref 0, .int x, .int l, .int n] m (fun v m1 => v = -1000001 ∧ m = m1) := by
  refine jX_of (L := [some (.ref 0), some (.int x), some (.int l), some (.int n)]) 0 rfl rfl (by decide +kernel) rfl ?_
  refine e_iload_n dX3_row_0 rfl ?_
  refine e_bipush (v := 8) dX3_row_1 rfl ?_
  refine e_callSi (n := 2) mX3_isNot [.int x, .int 8] dX3_row_3 ckX3_80 rfl (by decide +kernel) rfl rfl (Nat.le_of_ble_eq_true rfl) ⟨Nat.zero_le _, Nat.zero_le _⟩ (s_notN m x 8 8 rfl) (fun v3 m1 hm1 => ?_)
  rcases hm1 with ⟨rfl, ⟨rfl, q1⟩ | ⟨rfl, q1⟩⟩
  · refine e_if_ne 23 dX3_row_6 (by decide) (fun c6 => ?_) (fun h => absurd h (by decide))
    refine e_ldc dX3_row_23 kkX3_84 ?_
    exact e_iret dX3_row_25 rfl (⟨rfl, rfl⟩)
  · have q1 := Classical.not_not.mp q1
    refine e_if_ne 23 dX3_row_6 (by decide) (fun h => absurd h (by decide)) (fun c6 => ?_)
    refine e_iload_n dX3_row_9 rfl ?_
    refine e_iconst (v := 3) dX3_row_10 rfl ?_
    refine e_callSi (n := 2) mX3_isNot [.int l, .int 3] dX3_row_11 ckX3_80 rfl (by decide +kernel) rfl rfl (Nat.le_of_ble_eq_true rfl) ⟨Nat.zero_le _, Nat.zero_le _⟩ (s_notN m l 3 3 rfl) (fun v11 m2 hm2 => ?_)
    rcases hm2 with ⟨rfl, ⟨rfl, q2⟩ | ⟨rfl, q2⟩⟩
    · refine e_if_ne 23 dX3_row_14 (by decide) (fun c14 => ?_) (fun h => absurd h (by decide))
      refine e_ldc dX3_row_23 kkX3_84 ?_
      exact e_iret dX3_row_25 rfl (⟨rfl, rfl⟩)
    · have q2 := Classical.not_not.mp q2
      refine e_if_ne 23 dX3_row_14 (by decide) (fun h => absurd h (by decide)) (fun c14 => ?_)
      refine e_iload_n dX3_row_17 rfl ?_
      refine e_bipush (v := 40) dX3_row_18 rfl ?_
      refine e_icmp_le 26 dX3_row_20 (by decide) (fun h => False.elim (hb ⟨q1, q2, h⟩)) (fun c20 => ?_)
      refine e_ldc dX3_row_23 kkX3_84 ?_
      exact e_iret dX3_row_25 rfl (⟨rfl, rfl⟩)

set_option maxHeartbeats 2000000 in
set_option maxRecDepth 20000 in
theorem s_Jrow_z (m : jM) (x l n : Int32) (h1 : inN x 8) (h2 : inN l 3) (h3 : n < 0) : iX mX3_row [.ref 0, .int x, .int l, .int n] m (fun v m1 => v = (-1000010) - 4 ∧ jst m 0 17 4 = m1) := by
  refine jX_of (L := [some (.ref 0), some (.int x), some (.int l), some (.int n)]) 0 rfl rfl (by decide +kernel) rfl ?_
  refine e_iload_n dX3_row_0 rfl ?_
  refine e_bipush (v := 8) dX3_row_1 rfl ?_
  refine e_callSi (n := 2) mX3_isNot [.int x, .int 8] dX3_row_3 ckX3_80 rfl (by decide +kernel) rfl rfl (Nat.le_of_ble_eq_true rfl) ⟨Nat.zero_le _, Nat.zero_le _⟩ (s_notN m x 8 8 rfl) (fun v3 m1 hm1 => ?_)
  rcases hm1 with ⟨rfl, ⟨rfl, q1⟩ | ⟨rfl, q1⟩⟩
  · exact False.elim (q1 h1)
  · have q1 := Classical.not_not.mp q1
    refine e_if_ne 23 dX3_row_6 (by decide) (fun h => absurd h (by decide)) (fun c6 => ?_)
    refine e_iload_n dX3_row_9 rfl ?_
    refine e_iconst (v := 3) dX3_row_10 rfl ?_
    refine e_callSi (n := 2) mX3_isNot [.int l, .int 3] dX3_row_11 ckX3_80 rfl (by decide +kernel) rfl rfl (Nat.le_of_ble_eq_true rfl) ⟨Nat.zero_le _, Nat.zero_le _⟩ (s_notN m l 3 3 rfl) (fun v11 m2 hm2 => ?_)
    rcases hm2 with ⟨rfl, ⟨rfl, q2⟩ | ⟨rfl, q2⟩⟩
    · exact False.elim (q2 h2)
    · have q2 := Classical.not_not.mp q2
      refine e_if_ne 23 dX3_row_14 (by decide) (fun h => absurd h (by decide)) (fun c14 => ?_)
      refine e_iload_n dX3_row_17 rfl ?_
      refine e_bipush (v := 40) dX3_row_18 rfl ?_
      refine e_icmp_le 26 dX3_row_20 (by decide) (fun c20 => ?_) (fun h => absurd (Int32.le_of_lt (Int32.lt_of_lt_of_le h3 (by decide))) h)
      refine e_iload_n dX3_row_26 rfl ?_
      refine e_if_ge 36 dX3_row_27 (by decide) (fun h => absurd h3 (Int32.not_lt.mpr h)) (fun c27 => ?_)
      refine e_aload_n dX3_row_30 rfl ?_
      refine e_iconst (v := 4) dX3_row_31 rfl ?_
      refine e_callVi (n := 1) mX3_found [.int 4] dX3_row_32 ckX3_85 rfl (by decide +kernel) rfl rfl rfl rfl (Nat.le_of_ble_eq_true rfl) ⟨Nat.zero_le _, Nat.zero_le _⟩ (s_found m 4) (fun v32 mw hmw => ?_)
      obtain ⟨rfl, hw⟩ := hmw
      exact e_iret dX3_row_35 rfl (⟨rfl, hw⟩)

set_option maxHeartbeats 2000000 in
set_option maxRecDepth 20000 in
theorem s_Jrow (m : jM) (r : Nat) (hr : r < 8) (l : Int32) (h2 : inN l 3) (k : Nat) (hk : k ≤ 40) : iX mX3_row [.ref 0, .int (nI r), .int l, .int (nI k)] m (fun v m1 => v = nI k ∧ jst (jup (jst (jst (jst m (2 + 2 * r) 0 1) (2 + 2 * r) 1 l) (2 + 2 * r) 2 (nI k)) (2 + 2 * r + 1) (va_cpy (fun _ => 0) (m (2 + 2 * r + 1)) 0 0 40)) 0 17 0 = m1) := by
  refine jX_of (L := [some (.ref 0), some (.int (nI r)), some (.int l), some (.int (nI k))]) 0 rfl rfl (by decide +kernel) rfl ?_
  refine e_iload_n dX3_row_0 rfl ?_
  refine e_bipush (v := 8) dX3_row_1 rfl ?_
  refine e_callSi (n := 2) mX3_isNot [.int (nI r), .int 8] dX3_row_3 ckX3_80 rfl (by decide +kernel) rfl rfl (Nat.le_of_ble_eq_true rfl) ⟨Nat.zero_le _, Nat.zero_le _⟩ (s_notN m (nI r) 8 8 rfl) (fun v3 m1 hm1 => ?_)
  rcases hm1 with ⟨rfl, ⟨rfl, q1⟩ | ⟨rfl, q1⟩⟩
  · exact False.elim (q1 (inN_nI (by decide) hr))
  · have q1 := Classical.not_not.mp q1
    refine e_if_ne 23 dX3_row_6 (by decide) (fun h => absurd h (by decide)) (fun c6 => ?_)
    refine e_iload_n dX3_row_9 rfl ?_
    refine e_iconst (v := 3) dX3_row_10 rfl ?_
    refine e_callSi (n := 2) mX3_isNot [.int l, .int 3] dX3_row_11 ckX3_80 rfl (by decide +kernel) rfl rfl (Nat.le_of_ble_eq_true rfl) ⟨Nat.zero_le _, Nat.zero_le _⟩ (s_notN m l 3 3 rfl) (fun v11 m2 hm2 => ?_)
    rcases hm2 with ⟨rfl, ⟨rfl, q2⟩ | ⟨rfl, q2⟩⟩
    · exact False.elim (q2 h2)
    · have q2 := Classical.not_not.mp q2
      refine e_if_ne 23 dX3_row_14 (by decide) (fun h => absurd h (by decide)) (fun c14 => ?_)
      refine e_iload_n dX3_row_17 rfl ?_
      refine e_bipush (v := 40) dX3_row_18 rfl ?_
      refine e_icmp_le 26 dX3_row_20 (by decide) (fun c20 => ?_) (fun h => absurd ((j_le (by omega) (by decide)).mpr hk) h)
      refine e_iload_n dX3_row_26 rfl ?_
      refine e_if_ge 36 dX3_row_27 (by decide) (fun c27 => ?_) (fun h => absurd (nI_pos' (by omega)) h)
      refine e_aload_n dX3_row_36 rfl ?_
      refine e_getR (o := 1) (b := 1) dX3_row_37 lkX3_11 rfl rfl (by decide) rfl ?_
      refine e_iload_n dX3_row_40 rfl ?_
      refine e_aald (b := 2 + 2 * r) dX3_row_41 rfl (by decide) r rfl (by omega) (by decide) rfl ?_
      refine e_iload_n dX3_row_42 rfl ?_
      refine e_iload_n dX3_row_43 rfl ?_
      refine e_callVv (n := 2) mX1_begin [.int l, .int (nI k)] dX3_row_44 ckX3_89 rfl (by decide +kernel) rfl (isR_l r (by omega)) rfl rfl (Nat.le_of_ble_eq_true rfl) ⟨Nat.zero_le _, Nat.zero_le _⟩ (s_rowBegin m r hr l (nI k)) (fun mb hmb => ?_)
      refine e_aload_n dX3_row_47 rfl ?_
      refine e_iload_n dX3_row_48 rfl ?_
      refine e_callVi (n := 1) mX3_fine [.int (nI k)] dX3_row_49 ckX3_93 rfl (by decide +kernel) rfl rfl rfl rfl (Nat.le_of_ble_eq_true rfl) ⟨Nat.zero_le _, Nat.zero_le _⟩ (s_fine mb (nI k)) (fun v49 mw hmw => ?_)
      obtain ⟨rfl, hw⟩ := hmw
      exact e_iret dX3_row_52 rfl (⟨rfl, by rw [← hw, ← hmb]⟩)

set_option maxHeartbeats 2000000 in
set_option maxRecDepth 20000 in
theorem s_Jset_b (m : jM) (x i v : Int32) (hb : ¬ inN x 8) : iX mX3_set [.ref 0, .int x, .int i, .int v] m (fun v m1 => v = -1000001 ∧ m = m1) := by
  refine jX_of (L := [some (.ref 0), some (.int x), some (.int i), some (.int v), none]) 1 rfl rfl (by decide +kernel) rfl ?_
  refine e_iload_n dX3_set_0 rfl ?_
  refine e_bipush (v := 8) dX3_set_1 rfl ?_
  refine e_callSi (n := 2) mX3_isNot [.int x, .int 8] dX3_set_3 ckX3_80 rfl (by decide +kernel) rfl rfl (Nat.le_of_ble_eq_true rfl) ⟨Nat.zero_le _, Nat.zero_le _⟩ (s_notN m x 8 8 rfl) (fun v3 m1 hm1 => ?_)
  rcases hm1 with ⟨rfl, ⟨rfl, q1⟩ | ⟨rfl, q1⟩⟩
  · refine e_if_eq 12 dX3_set_6 (by decide) (fun h => absurd h (by decide)) (fun c6 => ?_)
    refine e_ldc dX3_set_9 kkX3_84 ?_
    exact e_iret dX3_set_11 rfl (⟨rfl, rfl⟩)
  · have q1 := Classical.not_not.mp q1
    exact False.elim (hb q1)

set_option maxHeartbeats 2000000 in
set_option maxRecDepth 20000 in
theorem s_Jset_n (m : jM) (r : Nat) (hr : r < 8) (i v : Int32) (h0 : m (2 + 2 * r) 0 = 0) : iX mX3_set [.ref 0, .int (nI r), .int i, .int v] m (fun v m1 => v = (-1000010) - 1 ∧ jst m 0 17 1 = m1) := by
  refine jX_of (L := [some (.ref 0), some (.int (nI r)), some (.int i), some (.int v), none]) 1 rfl rfl (by decide +kernel) rfl ?_
  refine e_iload_n dX3_set_0 rfl ?_
  refine e_bipush (v := 8) dX3_set_1 rfl ?_
  refine e_callSi (n := 2) mX3_isNot [.int (nI r), .int 8] dX3_set_3 ckX3_80 rfl (by decide +kernel) rfl rfl (Nat.le_of_ble_eq_true rfl) ⟨Nat.zero_le _, Nat.zero_le _⟩ (s_notN m (nI r) 8 8 rfl) (fun v3 m1 hm1 => ?_)
  rcases hm1 with ⟨rfl, ⟨rfl, q1⟩ | ⟨rfl, q1⟩⟩
  · exact False.elim (q1 (inN_nI (by decide) hr))
  · have q1 := Classical.not_not.mp q1
    refine e_if_eq 12 dX3_set_6 (by decide) (fun c6 => ?_) (fun h => absurd h (by decide))
    refine e_aload_n dX3_set_12 rfl ?_
    refine e_getR (o := 1) (b := 1) dX3_set_13 lkX3_11 rfl rfl (by decide) rfl ?_
    refine e_iload_n dX3_set_16 rfl ?_
    refine e_aald (b := 2 + 2 * r) dX3_set_17 rfl (by decide) r rfl (by omega) (by decide) rfl ?_
    refine e_astore (L' := [some (.ref 0), some (.int (nI r)), some (.int i), some (.int v), some (.ref (2 + 2 * r))]) dX3_set_18 (Nat.le_of_ble_eq_true rfl) (Nat.le_of_ble_eq_true rfl) (jnl_at (i := 3) rfl) rfl ?_
    refine e_aload dX3_set_20 rfl ?_
    refine e_getI dX3_set_22 lkX3_96 (isR_l r (by omega)) rfl ?_
    rw [show m (2 + 2 * r) 0 = 0 from h0]
    refine e_if_ne 34 dX3_set_25 (by decide) (fun h => absurd rfl h) (fun c25 => ?_)
    refine e_aload_n dX3_set_28 rfl ?_
    refine e_iconst (v := 1) dX3_set_29 rfl ?_
    refine e_callVi (n := 1) mX3_found [.int 1] dX3_set_30 ckX3_85 rfl (by decide +kernel) rfl rfl rfl rfl (Nat.le_of_ble_eq_true rfl) ⟨Nat.zero_le _, Nat.zero_le _⟩ (s_found m 1) (fun v30 mw hmw => ?_)
    obtain ⟨rfl, hw⟩ := hmw
    exact e_iret dX3_set_33 rfl (⟨rfl, hw⟩)

set_option maxHeartbeats 2000000 in
set_option maxRecDepth 20000 in
theorem s_Jset_p (m : jM) (r : Nat) (hr : r < 8) (i v : Int32) (h0 : m (2 + 2 * r) 0 = 1) (k : Nat) (hk : k ≤ 40) (h2 : m (2 + 2 * r) 2 = nI k) (hb : ¬ inN i k) : iX mX3_set [.ref 0, .int (nI r), .int i, .int v] m (fun v m1 => v = (-1000010) - 2 ∧ jst m 0 17 2 = m1) := by
  refine jX_of (L := [some (.ref 0), some (.int (nI r)), some (.int i), some (.int v), none]) 1 rfl rfl (by decide +kernel) rfl ?_
  refine e_iload_n dX3_set_0 rfl ?_
  refine e_bipush (v := 8) dX3_set_1 rfl ?_
  refine e_callSi (n := 2) mX3_isNot [.int (nI r), .int 8] dX3_set_3 ckX3_80 rfl (by decide +kernel) rfl rfl (Nat.le_of_ble_eq_true rfl) ⟨Nat.zero_le _, Nat.zero_le _⟩ (s_notN m (nI r) 8 8 rfl) (fun v3 m1 hm1 => ?_)
  rcases hm1 with ⟨rfl, ⟨rfl, q1⟩ | ⟨rfl, q1⟩⟩
  · exact False.elim (q1 (inN_nI (by decide) hr))
  · have q1 := Classical.not_not.mp q1
    refine e_if_eq 12 dX3_set_6 (by decide) (fun c6 => ?_) (fun h => absurd h (by decide))
    refine e_aload_n dX3_set_12 rfl ?_
    refine e_getR (o := 1) (b := 1) dX3_set_13 lkX3_11 rfl rfl (by decide) rfl ?_
    refine e_iload_n dX3_set_16 rfl ?_
    refine e_aald (b := 2 + 2 * r) dX3_set_17 rfl (by decide) r rfl (by omega) (by decide) rfl ?_
    refine e_astore (L' := [some (.ref 0), some (.int (nI r)), some (.int i), some (.int v), some (.ref (2 + 2 * r))]) dX3_set_18 (Nat.le_of_ble_eq_true rfl) (Nat.le_of_ble_eq_true rfl) (jnl_at (i := 3) rfl) rfl ?_
    refine e_aload dX3_set_20 rfl ?_
    refine e_getI dX3_set_22 lkX3_96 (isR_l r (by omega)) rfl ?_
    rw [show m (2 + 2 * r) 0 = 1 from h0]
    refine e_if_ne 34 dX3_set_25 (by decide) (fun c25 => ?_) (fun h => absurd h (by decide))
    refine e_aload dX3_set_34 rfl ?_
    refine e_iload_n dX3_set_36 rfl ?_
    refine e_iconst (v := 1) dX3_set_37 rfl ?_
    refine e_callVi (n := 2) mX1_reaches [.int i, .int 1] dX3_set_38 ckX3_100 rfl (by decide +kernel) rfl (isR_l r (by omega)) rfl rfl (Nat.le_of_ble_eq_true rfl) ⟨Nat.zero_le _, Nat.zero_le _⟩ (s_reaches m r (by omega) i 1) (fun v38 m2 hm2 => ?_)
    rcases hm2 with ⟨rfl, ⟨rfl, q3⟩ | ⟨rfl, q3⟩⟩
    · exact False.elim (hb ((inN_pred (by omega)).mp ⟨q3.1, by have := q3.2.2; rw [h2] at this; exact this⟩))
    · refine e_if_ne 50 dX3_set_41 (by decide) (fun h => absurd h (by decide)) (fun c41 => ?_)
      refine e_aload_n dX3_set_44 rfl ?_
      refine e_iconst (v := 2) dX3_set_45 rfl ?_
      refine e_callVi (n := 1) mX3_found [.int 2] dX3_set_46 ckX3_85 rfl (by decide +kernel) rfl rfl rfl rfl (Nat.le_of_ble_eq_true rfl) ⟨Nat.zero_le _, Nat.zero_le _⟩ (s_found m 2) (fun v46 mw hmw => ?_)
      obtain ⟨rfl, hw⟩ := hmw
      exact e_iret dX3_set_49 rfl (⟨rfl, hw⟩)

set_option maxHeartbeats 2000000 in
set_option maxRecDepth 20000 in
theorem s_Jset (m : jM) (r : Nat) (hr : r < 8) (i : Nat) (v : Int32) (h0 : m (2 + 2 * r) 0 = 1) (k : Nat) (hk : k ≤ 40) (h2 : m (2 + 2 * r) 2 = nI k) (hi : i < k) : iX mX3_set [.ref 0, .int (nI r), .int (nI i), .int v] m (fun x m1 => x = laneF (m (2 + 2 * r) 1) v ∧ jst (jst m (2 + 2 * r + 1) i (laneF (m (2 + 2 * r) 1) v)) 0 17 0 = m1) := by
  refine jX_of (L := [some (.ref 0), some (.int (nI r)), some (.int (nI i)), some (.int v), none]) 1 rfl rfl (by decide +kernel) rfl ?_
  refine e_iload_n dX3_set_0 rfl ?_
  refine e_bipush (v := 8) dX3_set_1 rfl ?_
  refine e_callSi (n := 2) mX3_isNot [.int (nI r), .int 8] dX3_set_3 ckX3_80 rfl (by decide +kernel) rfl rfl (Nat.le_of_ble_eq_true rfl) ⟨Nat.zero_le _, Nat.zero_le _⟩ (s_notN m (nI r) 8 8 rfl) (fun v3 m1 hm1 => ?_)
  rcases hm1 with ⟨rfl, ⟨rfl, q1⟩ | ⟨rfl, q1⟩⟩
  · exact False.elim (q1 (inN_nI (by decide) hr))
  · have q1 := Classical.not_not.mp q1
    refine e_if_eq 12 dX3_set_6 (by decide) (fun c6 => ?_) (fun h => absurd h (by decide))
    refine e_aload_n dX3_set_12 rfl ?_
    refine e_getR (o := 1) (b := 1) dX3_set_13 lkX3_11 rfl rfl (by decide) rfl ?_
    refine e_iload_n dX3_set_16 rfl ?_
    refine e_aald (b := 2 + 2 * r) dX3_set_17 rfl (by decide) r rfl (by omega) (by decide) rfl ?_
    refine e_astore (L' := [some (.ref 0), some (.int (nI r)), some (.int (nI i)), some (.int v), some (.ref (2 + 2 * r))]) dX3_set_18 (Nat.le_of_ble_eq_true rfl) (Nat.le_of_ble_eq_true rfl) (jnl_at (i := 3) rfl) rfl ?_
    refine e_aload dX3_set_20 rfl ?_
    refine e_getI dX3_set_22 lkX3_96 (isR_l r (by omega)) rfl ?_
    rw [show m (2 + 2 * r) 0 = 1 from h0]
    refine e_if_ne 34 dX3_set_25 (by decide) (fun c25 => ?_) (fun h => absurd h (by decide))
    refine e_aload dX3_set_34 rfl ?_
    refine e_iload_n dX3_set_36 rfl ?_
    refine e_iconst (v := 1) dX3_set_37 rfl ?_
    refine e_callVi (n := 2) mX1_reaches [.int (nI i), .int 1] dX3_set_38 ckX3_100 rfl (by decide +kernel) rfl (isR_l r (by omega)) rfl rfl (Nat.le_of_ble_eq_true rfl) ⟨Nat.zero_le _, Nat.zero_le _⟩ (s_reaches m r (by omega) (nI i) 1) (fun v38 m2 hm2 => ?_)
    rcases hm2 with ⟨rfl, ⟨rfl, q3⟩ | ⟨rfl, q3⟩⟩
    · refine e_if_ne 50 dX3_set_41 (by decide) (fun c41 => ?_) (fun h => absurd h (by decide))
      refine e_aload dX3_set_50 rfl ?_
      refine e_getR (o := 1) (b := 2 + 2 * r + 1) dX3_set_52 lkX3_103 (isR_l r (by omega)) rfl (by decide) rfl ?_
      refine e_iload_n dX3_set_55 rfl ?_
      refine e_aload dX3_set_56 rfl ?_
      refine e_iload_n dX3_set_58 rfl ?_
      refine e_callVi (n := 1) mX1_cut [.int v] dX3_set_59 ckX3_106 rfl (by decide +kernel) rfl (isR_l r (by omega)) rfl rfl (Nat.le_of_ble_eq_true rfl) ⟨Nat.zero_le _, Nat.zero_le _⟩ (s_cut m r hr v) (fun v59 m3 hm3 => ?_)
      obtain ⟨rfl, rfl⟩ := hm3
      refine e_iast dX3_set_62 (isR_i r (by omega)) i rfl (by omega) (by decide) (fun ma hma => ?_)
      refine e_aload_n dX3_set_63 rfl ?_
      refine e_aload dX3_set_64 rfl ?_
      refine e_getR (o := 1) (b := 2 + 2 * r + 1) dX3_set_66 lkX3_103 (isR_l r (by omega)) rfl (by decide) rfl ?_
      refine e_iload_n dX3_set_69 rfl ?_
      refine e_iald dX3_set_70 (isR_i r (by omega)) i rfl (by omega) (by decide) ?_
      rw [show ma (2 + 2 * r + 1) i = laneF (m (2 + 2 * r) 1) v from by rw [hma, jup_s, upd_s]]
      refine e_callVi (n := 1) mX3_fine [.int (laneF (m (2 + 2 * r) 1) v)] dX3_set_71 ckX3_93 rfl (by decide +kernel) rfl rfl rfl rfl (Nat.le_of_ble_eq_true rfl) ⟨Nat.zero_le _, Nat.zero_le _⟩ (s_fine ma (laneF (m (2 + 2 * r) 1) v)) (fun v71 mw hmw => ?_)
      obtain ⟨rfl, hw⟩ := hmw
      exact e_iret dX3_set_74 rfl (⟨rfl, by rw [← hw, hma]⟩)
    · exact False.elim (q3 ⟨nI_pos' (by omega), by decide, by rw [h2]; exact ((inN_pred (by omega)).mpr (inN_nI (by omega) hi)).2⟩)

set_option maxHeartbeats 2000000 in
set_option maxRecDepth 20000 in
theorem s_Jcopy_b (m : jM) (x i y j n : Int32) (hb : ¬ (inN x 8 ∧ inN y 8)) : iX mX3_copy [.ref 0, .int x, .int i, .int y, .int j, .int n] m (fun v m1 => v = -1000001 ∧ m = m1) := by
  refine jX_of (L := [some (.ref 0), some (.int x), some (.int i), some (.int y), some (.int j), some (.int n), none, none]) 2 rfl rfl (by decide +kernel) rfl ?_
  refine e_iload_n dX3_copy_0 rfl ?_
  refine e_bipush (v := 8) dX3_copy_1 rfl ?_
  refine e_callSi (n := 2) mX3_isNot [.int x, .int 8] dX3_copy_3 ckX3_80 rfl (by decide +kernel) rfl rfl (Nat.le_of_ble_eq_true rfl) ⟨Nat.zero_le _, Nat.zero_le _⟩ (s_notN m x 8 8 rfl) (fun v3 m1 hm1 => ?_)
  rcases hm1 with ⟨rfl, ⟨rfl, q1⟩ | ⟨rfl, q1⟩⟩
  · refine e_if_ne 18 dX3_copy_6 (by decide) (fun c6 => ?_) (fun h => absurd h (by decide))
    refine e_ldc dX3_copy_18 kkX3_84 ?_
    exact e_iret dX3_copy_20 rfl (⟨rfl, rfl⟩)
  · have q1 := Classical.not_not.mp q1
    refine e_if_ne 18 dX3_copy_6 (by decide) (fun h => absurd h (by decide)) (fun c6 => ?_)
    refine e_iload_n dX3_copy_9 rfl ?_
    refine e_bipush (v := 8) dX3_copy_10 rfl ?_
    refine e_callSi (n := 2) mX3_isNot [.int y, .int 8] dX3_copy_12 ckX3_80 rfl (by decide +kernel) rfl rfl (Nat.le_of_ble_eq_true rfl) ⟨Nat.zero_le _, Nat.zero_le _⟩ (s_notN m y 8 8 rfl) (fun v12 m2 hm2 => ?_)
    rcases hm2 with ⟨rfl, ⟨rfl, q2⟩ | ⟨rfl, q2⟩⟩
    · refine e_if_eq 21 dX3_copy_15 (by decide) (fun h => absurd h (by decide)) (fun c15 => ?_)
      refine e_ldc dX3_copy_18 kkX3_84 ?_
      exact e_iret dX3_copy_20 rfl (⟨rfl, rfl⟩)
    · have q2 := Classical.not_not.mp q2
      exact False.elim (hb ⟨q1, q2⟩)

set_option maxHeartbeats 2000000 in
set_option maxRecDepth 20000 in
theorem s_Jcopy_n (m : jM) (a b : Nat) (ha : a < 8) (hb : b < 8) (i j n : Int32) (a01 : m (2 + 2 * a) 0 = 0 ∨ m (2 + 2 * a) 0 = 1) (b01 : m (2 + 2 * b) 0 = 0 ∨ m (2 + 2 * b) 0 = 1) (hn : m (2 + 2 * a) 0 = 0 ∨ m (2 + 2 * b) 0 = 0) : iX mX3_copy [.ref 0, .int (nI a), .int i, .int (nI b), .int j, .int n] m (fun v m1 => v = (-1000010) - 1 ∧ jst m 0 17 1 = m1) := by
  refine jX_of (L := [some (.ref 0), some (.int (nI a)), some (.int i), some (.int (nI b)), some (.int j), some (.int n), none, none]) 2 rfl rfl (by decide +kernel) rfl ?_
  refine e_iload_n dX3_copy_0 rfl ?_
  refine e_bipush (v := 8) dX3_copy_1 rfl ?_
  refine e_callSi (n := 2) mX3_isNot [.int (nI a), .int 8] dX3_copy_3 ckX3_80 rfl (by decide +kernel) rfl rfl (Nat.le_of_ble_eq_true rfl) ⟨Nat.zero_le _, Nat.zero_le _⟩ (s_notN m (nI a) 8 8 rfl) (fun v3 m1 hm1 => ?_)
  rcases hm1 with ⟨rfl, ⟨rfl, q1⟩ | ⟨rfl, q1⟩⟩
  · exact False.elim (q1 (inN_nI (by decide) ha))
  · have q1 := Classical.not_not.mp q1
    refine e_if_ne 18 dX3_copy_6 (by decide) (fun h => absurd h (by decide)) (fun c6 => ?_)
    refine e_iload_n dX3_copy_9 rfl ?_
    refine e_bipush (v := 8) dX3_copy_10 rfl ?_
    refine e_callSi (n := 2) mX3_isNot [.int (nI b), .int 8] dX3_copy_12 ckX3_80 rfl (by decide +kernel) rfl rfl (Nat.le_of_ble_eq_true rfl) ⟨Nat.zero_le _, Nat.zero_le _⟩ (s_notN m (nI b) 8 8 rfl) (fun v12 m2 hm2 => ?_)
    rcases hm2 with ⟨rfl, ⟨rfl, q2⟩ | ⟨rfl, q2⟩⟩
    · exact False.elim (q2 (inN_nI (by decide) hb))
    · have q2 := Classical.not_not.mp q2
      refine e_if_eq 21 dX3_copy_15 (by decide) (fun c15 => ?_) (fun h => absurd h (by decide))
      refine e_aload_n dX3_copy_21 rfl ?_
      refine e_getR (o := 1) (b := 1) dX3_copy_22 lkX3_11 rfl rfl (by decide) rfl ?_
      refine e_iload_n dX3_copy_25 rfl ?_
      refine e_aald (b := 2 + 2 * a) dX3_copy_26 rfl (by decide) a rfl (by omega) (by decide) rfl ?_
      refine e_astore (L' := [some (.ref 0), some (.int (nI a)), some (.int i), some (.int (nI b)), some (.int j), some (.int n), some (.ref (2 + 2 * a)), none]) dX3_copy_27 (Nat.le_of_ble_eq_true rfl) (Nat.le_of_ble_eq_true rfl) (jnl_at (i := 5) rfl) rfl ?_
      refine e_aload_n dX3_copy_29 rfl ?_
      refine e_getR (o := 1) (b := 1) dX3_copy_30 lkX3_11 rfl rfl (by decide) rfl ?_
      refine e_iload_n dX3_copy_33 rfl ?_
      refine e_aald (b := 2 + 2 * b) dX3_copy_34 rfl (by decide) b rfl (by omega) (by decide) rfl ?_
      refine e_astore (L' := [some (.ref 0), some (.int (nI a)), some (.int i), some (.int (nI b)), some (.int j), some (.int n), some (.ref (2 + 2 * a)), some (.ref (2 + 2 * b))]) dX3_copy_35 (Nat.le_of_ble_eq_true rfl) (Nat.le_of_ble_eq_true rfl) (jnl_at (i := 6) rfl) rfl ?_
      refine e_aload dX3_copy_37 rfl ?_
      refine e_getI dX3_copy_39 lkX3_96 (isR_l a ha) rfl ?_
      refine e_if_eq 53 dX3_copy_42 (by decide) (fun c42 => ?_) (fun c42 => ?_)
      · refine e_aload_n dX3_copy_53 rfl ?_
        refine e_iconst (v := 1) dX3_copy_54 rfl ?_
        refine e_callVi (n := 1) mX3_found [.int 1] dX3_copy_55 ckX3_85 rfl (by decide +kernel) rfl rfl rfl rfl (Nat.le_of_ble_eq_true rfl) ⟨Nat.zero_le _, Nat.zero_le _⟩ (s_found m 1) (fun v55 mw hmw => ?_)
        obtain ⟨rfl, hw⟩ := hmw
        exact e_iret dX3_copy_58 rfl (⟨rfl, hw⟩)
      · refine e_aload dX3_copy_45 rfl ?_
        refine e_getI dX3_copy_47 lkX3_96 (isR_l b hb) rfl ?_
        refine e_if_ne 59 dX3_copy_50 (by decide) (fun h => (hn.elim (fun z => c42 z) (fun z => h z)).elim) (fun c50 => ?_)
        refine e_aload_n dX3_copy_53 rfl ?_
        refine e_iconst (v := 1) dX3_copy_54 rfl ?_
        refine e_callVi (n := 1) mX3_found [.int 1] dX3_copy_55 ckX3_85 rfl (by decide +kernel) rfl rfl rfl rfl (Nat.le_of_ble_eq_true rfl) ⟨Nat.zero_le _, Nat.zero_le _⟩ (s_found m 1) (fun v55 mw hmw => ?_)
        obtain ⟨rfl, hw⟩ := hmw
        exact e_iret dX3_copy_58 rfl (⟨rfl, hw⟩)

set_option maxHeartbeats 2000000 in
set_option maxRecDepth 20000 in
theorem s_Jcopy_s (m : jM) (a b : Nat) (ha : a < 8) (hb : b < 8) (i j n : Int32) (a1 : m (2 + 2 * a) 0 = 1) (b1 : m (2 + 2 * b) 0 = 1) (hl : ¬ m (2 + 2 * a) 1 = m (2 + 2 * b) 1) : iX mX3_copy [.ref 0, .int (nI a), .int i, .int (nI b), .int j, .int n] m (fun v m1 => v = (-1000010) - 5 ∧ jst m 0 17 5 = m1) := by
  refine jX_of (L := [some (.ref 0), some (.int (nI a)), some (.int i), some (.int (nI b)), some (.int j), some (.int n), none, none]) 2 rfl rfl (by decide +kernel) rfl ?_
  refine e_iload_n dX3_copy_0 rfl ?_
  refine e_bipush (v := 8) dX3_copy_1 rfl ?_
  refine e_callSi (n := 2) mX3_isNot [.int (nI a), .int 8] dX3_copy_3 ckX3_80 rfl (by decide +kernel) rfl rfl (Nat.le_of_ble_eq_true rfl) ⟨Nat.zero_le _, Nat.zero_le _⟩ (s_notN m (nI a) 8 8 rfl) (fun v3 m1 hm1 => ?_)
  rcases hm1 with ⟨rfl, ⟨rfl, q1⟩ | ⟨rfl, q1⟩⟩
  · exact False.elim (q1 (inN_nI (by decide) ha))
  · have q1 := Classical.not_not.mp q1
    refine e_if_ne 18 dX3_copy_6 (by decide) (fun h => absurd h (by decide)) (fun c6 => ?_)
    refine e_iload_n dX3_copy_9 rfl ?_
    refine e_bipush (v := 8) dX3_copy_10 rfl ?_
    refine e_callSi (n := 2) mX3_isNot [.int (nI b), .int 8] dX3_copy_12 ckX3_80 rfl (by decide +kernel) rfl rfl (Nat.le_of_ble_eq_true rfl) ⟨Nat.zero_le _, Nat.zero_le _⟩ (s_notN m (nI b) 8 8 rfl) (fun v12 m2 hm2 => ?_)
    rcases hm2 with ⟨rfl, ⟨rfl, q2⟩ | ⟨rfl, q2⟩⟩
    · exact False.elim (q2 (inN_nI (by decide) hb))
    · have q2 := Classical.not_not.mp q2
      refine e_if_eq 21 dX3_copy_15 (by decide) (fun c15 => ?_) (fun h => absurd h (by decide))
      refine e_aload_n dX3_copy_21 rfl ?_
      refine e_getR (o := 1) (b := 1) dX3_copy_22 lkX3_11 rfl rfl (by decide) rfl ?_
      refine e_iload_n dX3_copy_25 rfl ?_
      refine e_aald (b := 2 + 2 * a) dX3_copy_26 rfl (by decide) a rfl (by omega) (by decide) rfl ?_
      refine e_astore (L' := [some (.ref 0), some (.int (nI a)), some (.int i), some (.int (nI b)), some (.int j), some (.int n), some (.ref (2 + 2 * a)), none]) dX3_copy_27 (Nat.le_of_ble_eq_true rfl) (Nat.le_of_ble_eq_true rfl) (jnl_at (i := 5) rfl) rfl ?_
      refine e_aload_n dX3_copy_29 rfl ?_
      refine e_getR (o := 1) (b := 1) dX3_copy_30 lkX3_11 rfl rfl (by decide) rfl ?_
      refine e_iload_n dX3_copy_33 rfl ?_
      refine e_aald (b := 2 + 2 * b) dX3_copy_34 rfl (by decide) b rfl (by omega) (by decide) rfl ?_
      refine e_astore (L' := [some (.ref 0), some (.int (nI a)), some (.int i), some (.int (nI b)), some (.int j), some (.int n), some (.ref (2 + 2 * a)), some (.ref (2 + 2 * b))]) dX3_copy_35 (Nat.le_of_ble_eq_true rfl) (Nat.le_of_ble_eq_true rfl) (jnl_at (i := 6) rfl) rfl ?_
      refine e_aload dX3_copy_37 rfl ?_
      refine e_getI dX3_copy_39 lkX3_96 (isR_l a ha) rfl ?_
      rw [show m (2 + 2 * a) 0 = 1 from a1]
      refine e_if_eq 53 dX3_copy_42 (by decide) (fun h => absurd h (by decide)) (fun c42 => ?_)
      refine e_aload dX3_copy_45 rfl ?_
      refine e_getI dX3_copy_47 lkX3_96 (isR_l b hb) rfl ?_
      rw [show m (2 + 2 * b) 0 = 1 from b1]
      refine e_if_ne 59 dX3_copy_50 (by decide) (fun c50 => ?_) (fun h => absurd h (by decide))
      refine e_aload dX3_copy_59 rfl ?_
      refine e_getI dX3_copy_61 lkX3_109 (isR_l a ha) rfl ?_
      refine e_aload dX3_copy_64 rfl ?_
      refine e_getI dX3_copy_66 lkX3_109 (isR_l b hb) rfl ?_
      refine e_icmp_eq 78 dX3_copy_69 (by decide) (fun h => absurd h hl) (fun c69 => ?_)
      refine e_aload_n dX3_copy_72 rfl ?_
      refine e_iconst (v := 5) dX3_copy_73 rfl ?_
      refine e_callVi (n := 1) mX3_found [.int 5] dX3_copy_74 ckX3_85 rfl (by decide +kernel) rfl rfl rfl rfl (Nat.le_of_ble_eq_true rfl) ⟨Nat.zero_le _, Nat.zero_le _⟩ (s_found m 5) (fun v74 mw hmw => ?_)
      obtain ⟨rfl, hw⟩ := hmw
      exact e_iret dX3_copy_77 rfl (⟨rfl, hw⟩)

set_option maxHeartbeats 2000000 in
set_option maxRecDepth 20000 in
theorem s_Jcopy_p (m : jM) (a b : Nat) (ha : a < 8) (hb : b < 8) (i j n : Int32) (a1 : m (2 + 2 * a) 0 = 1) (b1 : m (2 + 2 * b) 0 = 1) (k k2 : Nat) (hk : k ≤ 40) (hk2 : k2 ≤ 40) (ea : m (2 + 2 * a) 2 = nI k) (eb : m (2 + 2 * b) 2 = nI k2) (hl : m (2 + 2 * a) 1 = m (2 + 2 * b) 1) (hp : ¬ (reachP k i n ∧ reachP k2 j n)) : iX mX3_copy [.ref 0, .int (nI a), .int i, .int (nI b), .int j, .int n] m (fun v m1 => v = (-1000010) - 2 ∧ jst m 0 17 2 = m1) := by
  refine jX_of (L := [some (.ref 0), some (.int (nI a)), some (.int i), some (.int (nI b)), some (.int j), some (.int n), none, none]) 2 rfl rfl (by decide +kernel) rfl ?_
  refine e_iload_n dX3_copy_0 rfl ?_
  refine e_bipush (v := 8) dX3_copy_1 rfl ?_
  refine e_callSi (n := 2) mX3_isNot [.int (nI a), .int 8] dX3_copy_3 ckX3_80 rfl (by decide +kernel) rfl rfl (Nat.le_of_ble_eq_true rfl) ⟨Nat.zero_le _, Nat.zero_le _⟩ (s_notN m (nI a) 8 8 rfl) (fun v3 m1 hm1 => ?_)
  rcases hm1 with ⟨rfl, ⟨rfl, q1⟩ | ⟨rfl, q1⟩⟩
  · exact False.elim (q1 (inN_nI (by decide) ha))
  · have q1 := Classical.not_not.mp q1
    refine e_if_ne 18 dX3_copy_6 (by decide) (fun h => absurd h (by decide)) (fun c6 => ?_)
    refine e_iload_n dX3_copy_9 rfl ?_
    refine e_bipush (v := 8) dX3_copy_10 rfl ?_
    refine e_callSi (n := 2) mX3_isNot [.int (nI b), .int 8] dX3_copy_12 ckX3_80 rfl (by decide +kernel) rfl rfl (Nat.le_of_ble_eq_true rfl) ⟨Nat.zero_le _, Nat.zero_le _⟩ (s_notN m (nI b) 8 8 rfl) (fun v12 m2 hm2 => ?_)
    rcases hm2 with ⟨rfl, ⟨rfl, q2⟩ | ⟨rfl, q2⟩⟩
    · exact False.elim (q2 (inN_nI (by decide) hb))
    · have q2 := Classical.not_not.mp q2
      refine e_if_eq 21 dX3_copy_15 (by decide) (fun c15 => ?_) (fun h => absurd h (by decide))
      refine e_aload_n dX3_copy_21 rfl ?_
      refine e_getR (o := 1) (b := 1) dX3_copy_22 lkX3_11 rfl rfl (by decide) rfl ?_
      refine e_iload_n dX3_copy_25 rfl ?_
      refine e_aald (b := 2 + 2 * a) dX3_copy_26 rfl (by decide) a rfl (by omega) (by decide) rfl ?_
      refine e_astore (L' := [some (.ref 0), some (.int (nI a)), some (.int i), some (.int (nI b)), some (.int j), some (.int n), some (.ref (2 + 2 * a)), none]) dX3_copy_27 (Nat.le_of_ble_eq_true rfl) (Nat.le_of_ble_eq_true rfl) (jnl_at (i := 5) rfl) rfl ?_
      refine e_aload_n dX3_copy_29 rfl ?_
      refine e_getR (o := 1) (b := 1) dX3_copy_30 lkX3_11 rfl rfl (by decide) rfl ?_
      refine e_iload_n dX3_copy_33 rfl ?_
      refine e_aald (b := 2 + 2 * b) dX3_copy_34 rfl (by decide) b rfl (by omega) (by decide) rfl ?_
      refine e_astore (L' := [some (.ref 0), some (.int (nI a)), some (.int i), some (.int (nI b)), some (.int j), some (.int n), some (.ref (2 + 2 * a)), some (.ref (2 + 2 * b))]) dX3_copy_35 (Nat.le_of_ble_eq_true rfl) (Nat.le_of_ble_eq_true rfl) (jnl_at (i := 6) rfl) rfl ?_
      refine e_aload dX3_copy_37 rfl ?_
      refine e_getI dX3_copy_39 lkX3_96 (isR_l a ha) rfl ?_
      rw [show m (2 + 2 * a) 0 = 1 from a1]
      refine e_if_eq 53 dX3_copy_42 (by decide) (fun h => absurd h (by decide)) (fun c42 => ?_)
      refine e_aload dX3_copy_45 rfl ?_
      refine e_getI dX3_copy_47 lkX3_96 (isR_l b hb) rfl ?_
      rw [show m (2 + 2 * b) 0 = 1 from b1]
      refine e_if_ne 59 dX3_copy_50 (by decide) (fun c50 => ?_) (fun h => absurd h (by decide))
      refine e_aload dX3_copy_59 rfl ?_
      refine e_getI dX3_copy_61 lkX3_109 (isR_l a ha) rfl ?_
      refine e_aload dX3_copy_64 rfl ?_
      refine e_getI dX3_copy_66 lkX3_109 (isR_l b hb) rfl ?_
      refine e_icmp_eq 78 dX3_copy_69 (by decide) (fun c69 => ?_) (fun h => absurd hl h)
      refine e_aload dX3_copy_78 rfl ?_
      refine e_iload_n dX3_copy_80 rfl ?_
      refine e_iload dX3_copy_81 rfl ?_
      refine e_callVi (n := 2) mX1_reaches [.int i, .int n] dX3_copy_83 ckX3_100 rfl (by decide +kernel) rfl (isR_l a ha) rfl rfl (Nat.le_of_ble_eq_true rfl) ⟨Nat.zero_le _, Nat.zero_le _⟩ (s_reaches m a ha i n) (fun v83 m3 hm3 => ?_)
      rcases hm3 with ⟨rfl, ⟨rfl, q3⟩ | ⟨rfl, q3⟩⟩
      · refine e_if_eq 101 dX3_copy_86 (by decide) (fun h => absurd h (by decide)) (fun c86 => ?_)
        refine e_aload dX3_copy_89 rfl ?_
        refine e_iload dX3_copy_91 rfl ?_
        refine e_iload dX3_copy_93 rfl ?_
        refine e_callVi (n := 2) mX1_reaches [.int j, .int n] dX3_copy_95 ckX3_100 rfl (by decide +kernel) rfl (isR_l b hb) rfl rfl (Nat.le_of_ble_eq_true rfl) ⟨Nat.zero_le _, Nat.zero_le _⟩ (s_reaches m b hb j n) (fun v95 m4 hm4 => ?_)
        rcases hm4 with ⟨rfl, ⟨rfl, q4⟩ | ⟨rfl, q4⟩⟩
        · exact False.elim (hp ⟨(reach_iff hk).mp (by rw [ea] at q3; exact q3), (reach_iff hk2).mp (by rw [eb] at q4; exact q4)⟩)
        · refine e_if_ne 107 dX3_copy_98 (by decide) (fun h => absurd h (by decide)) (fun c98 => ?_)
          refine e_aload_n dX3_copy_101 rfl ?_
          refine e_iconst (v := 2) dX3_copy_102 rfl ?_
          refine e_callVi (n := 1) mX3_found [.int 2] dX3_copy_103 ckX3_85 rfl (by decide +kernel) rfl rfl rfl rfl (Nat.le_of_ble_eq_true rfl) ⟨Nat.zero_le _, Nat.zero_le _⟩ (s_found m 2) (fun v103 mw hmw => ?_)
          obtain ⟨rfl, hw⟩ := hmw
          exact e_iret dX3_copy_106 rfl (⟨rfl, hw⟩)
      · refine e_if_eq 101 dX3_copy_86 (by decide) (fun c86 => ?_) (fun h => absurd h (by decide))
        refine e_aload_n dX3_copy_101 rfl ?_
        refine e_iconst (v := 2) dX3_copy_102 rfl ?_
        refine e_callVi (n := 1) mX3_found [.int 2] dX3_copy_103 ckX3_85 rfl (by decide +kernel) rfl rfl rfl rfl (Nat.le_of_ble_eq_true rfl) ⟨Nat.zero_le _, Nat.zero_le _⟩ (s_found m 2) (fun v103 mw hmw => ?_)
        obtain ⟨rfl, hw⟩ := hmw
        exact e_iret dX3_copy_106 rfl (⟨rfl, hw⟩)

set_option maxHeartbeats 2000000 in
set_option maxRecDepth 20000 in
theorem s_Jcopy (m : jM) (a b : Nat) (ha : a < 8) (hb : b < 8) (i j n : Nat) (a1 : m (2 + 2 * a) 0 = 1) (b1 : m (2 + 2 * b) 0 = 1) (k k2 : Nat) (hk : k ≤ 40) (hk2 : k2 ≤ 40) (ea : m (2 + 2 * a) 2 = nI k) (eb : m (2 + 2 * b) 2 = nI k2) (hl : m (2 + 2 * a) 1 = m (2 + 2 * b) 1) (hi : i + n ≤ k) (hj : j + n ≤ k2) : iX mX3_copy [.ref 0, .int (nI a), .int (nI i), .int (nI b), .int (nI j), .int (nI n)] m (fun v m1 => v = nI n ∧ jst (jup m (2 + 2 * b + 1) (va_cpy (m (2 + 2 * a + 1)) (m (2 + 2 * b + 1)) i j n)) 0 17 0 = m1) := by
  refine jX_of (L := [some (.ref 0), some (.int (nI a)), some (.int (nI i)), some (.int (nI b)), some (.int (nI j)), some (.int (nI n)), none, none]) 2 rfl rfl (by decide +kernel) rfl ?_
  refine e_iload_n dX3_copy_0 rfl ?_
  refine e_bipush (v := 8) dX3_copy_1 rfl ?_
  refine e_callSi (n := 2) mX3_isNot [.int (nI a), .int 8] dX3_copy_3 ckX3_80 rfl (by decide +kernel) rfl rfl (Nat.le_of_ble_eq_true rfl) ⟨Nat.zero_le _, Nat.zero_le _⟩ (s_notN m (nI a) 8 8 rfl) (fun v3 m1 hm1 => ?_)
  rcases hm1 with ⟨rfl, ⟨rfl, q1⟩ | ⟨rfl, q1⟩⟩
  · exact False.elim (q1 (inN_nI (by decide) ha))
  · have q1 := Classical.not_not.mp q1
    refine e_if_ne 18 dX3_copy_6 (by decide) (fun h => absurd h (by decide)) (fun c6 => ?_)
    refine e_iload_n dX3_copy_9 rfl ?_
    refine e_bipush (v := 8) dX3_copy_10 rfl ?_
    refine e_callSi (n := 2) mX3_isNot [.int (nI b), .int 8] dX3_copy_12 ckX3_80 rfl (by decide +kernel) rfl rfl (Nat.le_of_ble_eq_true rfl) ⟨Nat.zero_le _, Nat.zero_le _⟩ (s_notN m (nI b) 8 8 rfl) (fun v12 m2 hm2 => ?_)
    rcases hm2 with ⟨rfl, ⟨rfl, q2⟩ | ⟨rfl, q2⟩⟩
    · exact False.elim (q2 (inN_nI (by decide) hb))
    · have q2 := Classical.not_not.mp q2
      refine e_if_eq 21 dX3_copy_15 (by decide) (fun c15 => ?_) (fun h => absurd h (by decide))
      refine e_aload_n dX3_copy_21 rfl ?_
      refine e_getR (o := 1) (b := 1) dX3_copy_22 lkX3_11 rfl rfl (by decide) rfl ?_
      refine e_iload_n dX3_copy_25 rfl ?_
      refine e_aald (b := 2 + 2 * a) dX3_copy_26 rfl (by decide) a rfl (by omega) (by decide) rfl ?_
      refine e_astore (L' := [some (.ref 0), some (.int (nI a)), some (.int (nI i)), some (.int (nI b)), some (.int (nI j)), some (.int (nI n)), some (.ref (2 + 2 * a)), none]) dX3_copy_27 (Nat.le_of_ble_eq_true rfl) (Nat.le_of_ble_eq_true rfl) (jnl_at (i := 5) rfl) rfl ?_
      refine e_aload_n dX3_copy_29 rfl ?_
      refine e_getR (o := 1) (b := 1) dX3_copy_30 lkX3_11 rfl rfl (by decide) rfl ?_
      refine e_iload_n dX3_copy_33 rfl ?_
      refine e_aald (b := 2 + 2 * b) dX3_copy_34 rfl (by decide) b rfl (by omega) (by decide) rfl ?_
      refine e_astore (L' := [some (.ref 0), some (.int (nI a)), some (.int (nI i)), some (.int (nI b)), some (.int (nI j)), some (.int (nI n)), some (.ref (2 + 2 * a)), some (.ref (2 + 2 * b))]) dX3_copy_35 (Nat.le_of_ble_eq_true rfl) (Nat.le_of_ble_eq_true rfl) (jnl_at (i := 6) rfl) rfl ?_
      refine e_aload dX3_copy_37 rfl ?_
      refine e_getI dX3_copy_39 lkX3_96 (isR_l a ha) rfl ?_
      rw [show m (2 + 2 * a) 0 = 1 from a1]
      refine e_if_eq 53 dX3_copy_42 (by decide) (fun h => absurd h (by decide)) (fun c42 => ?_)
      refine e_aload dX3_copy_45 rfl ?_
      refine e_getI dX3_copy_47 lkX3_96 (isR_l b hb) rfl ?_
      rw [show m (2 + 2 * b) 0 = 1 from b1]
      refine e_if_ne 59 dX3_copy_50 (by decide) (fun c50 => ?_) (fun h => absurd h (by decide))
      refine e_aload dX3_copy_59 rfl ?_
      refine e_getI dX3_copy_61 lkX3_109 (isR_l a ha) rfl ?_
      refine e_aload dX3_copy_64 rfl ?_
      refine e_getI dX3_copy_66 lkX3_109 (isR_l b hb) rfl ?_
      refine e_icmp_eq 78 dX3_copy_69 (by decide) (fun c69 => ?_) (fun h => absurd hl h)
      refine e_aload dX3_copy_78 rfl ?_
      refine e_iload_n dX3_copy_80 rfl ?_
      refine e_iload dX3_copy_81 rfl ?_
      refine e_callVi (n := 2) mX1_reaches [.int (nI i), .int (nI n)] dX3_copy_83 ckX3_100 rfl (by decide +kernel) rfl (isR_l a ha) rfl rfl (Nat.le_of_ble_eq_true rfl) ⟨Nat.zero_le _, Nat.zero_le _⟩ (s_reaches m a ha (nI i) (nI n)) (fun v83 m3 hm3 => ?_)
      rcases hm3 with ⟨rfl, ⟨rfl, q3⟩ | ⟨rfl, q3⟩⟩
      · refine e_if_eq 101 dX3_copy_86 (by decide) (fun h => absurd h (by decide)) (fun c86 => ?_)
        refine e_aload dX3_copy_89 rfl ?_
        refine e_iload dX3_copy_91 rfl ?_
        refine e_iload dX3_copy_93 rfl ?_
        refine e_callVi (n := 2) mX1_reaches [.int (nI j), .int (nI n)] dX3_copy_95 ckX3_100 rfl (by decide +kernel) rfl (isR_l b hb) rfl rfl (Nat.le_of_ble_eq_true rfl) ⟨Nat.zero_le _, Nat.zero_le _⟩ (s_reaches m b hb (nI j) (nI n)) (fun v95 m4 hm4 => ?_)
        rcases hm4 with ⟨rfl, ⟨rfl, q4⟩ | ⟨rfl, q4⟩⟩
        · refine e_if_ne 107 dX3_copy_98 (by decide) (fun c98 => ?_) (fun h => absurd h (by decide))
          refine e_aload dX3_copy_107 rfl ?_
          refine e_getR (o := 1) (b := 2 + 2 * a + 1) dX3_copy_109 lkX3_103 (isR_l a ha) rfl (by decide) rfl ?_
          refine e_iload_n dX3_copy_112 rfl ?_
          refine e_aload dX3_copy_113 rfl ?_
          refine e_getR (o := 1) (b := 2 + 2 * b + 1) dX3_copy_115 lkX3_103 (isR_l b hb) rfl (by decide) rfl ?_
          refine e_iload dX3_copy_118 rfl ?_
          refine e_iload dX3_copy_120 rfl ?_
          refine e_copy dX3_copy_122 ckX3_112 (isR_i a ha) (isR_i b hb) i j n rfl rfl rfl (by omega) (by omega) (by decide) (by decide) (Nat.le_of_ble_eq_true rfl) (Nat.le_of_ble_eq_true rfl) (fun mc hmc => ?_)
          refine e_aload_n dX3_copy_125 rfl ?_
          refine e_iload dX3_copy_126 rfl ?_
          refine e_callVi (n := 1) mX3_fine [.int (nI n)] dX3_copy_128 ckX3_93 rfl (by decide +kernel) rfl rfl rfl rfl (Nat.le_of_ble_eq_true rfl) ⟨Nat.zero_le _, Nat.zero_le _⟩ (s_fine mc (nI n)) (fun v128 mw hmw => ?_)
          obtain ⟨rfl, hw⟩ := hmw
          exact e_iret dX3_copy_131 rfl (⟨rfl, by rw [← hw, hmc]⟩)
        · exact False.elim (q4 (by rw [eb]; exact (reach_iff (by omega)).mpr ⟨nI_pos' (by omega), nI_pos' (by omega), by rw [nI_toInt (by omega), nI_toInt (by omega)]; omega⟩))
      · exact False.elim (q3 (by rw [ea]; exact (reach_iff (by omega)).mpr ⟨nI_pos' (by omega), nI_pos' (by omega), by rw [nI_toInt (by omega), nI_toInt (by omega)]; omega⟩))

set_option maxHeartbeats 2000000 in
set_option maxRecDepth 20000 in
theorem s_Jdrop_b (m : jM) (x : Int32) (hb : ¬ inN x 8) : iX mX3_drop [.ref 0, .int x] m (fun v m1 => v = -1000001 ∧ m = m1) := by
  refine jX_of (L := [some (.ref 0), some (.int x), none]) 1 rfl rfl (by decide +kernel) rfl ?_
  refine e_iload_n dX3_drop_0 rfl ?_
  refine e_bipush (v := 8) dX3_drop_1 rfl ?_
  refine e_callSi (n := 2) mX3_isNot [.int x, .int 8] dX3_drop_3 ckX3_80 rfl (by decide +kernel) rfl rfl (Nat.le_of_ble_eq_true rfl) ⟨Nat.zero_le _, Nat.zero_le _⟩ (s_notN m x 8 8 rfl) (fun v3 m1 hm1 => ?_)
  rcases hm1 with ⟨rfl, ⟨rfl, q1⟩ | ⟨rfl, q1⟩⟩
  · refine e_if_eq 12 dX3_drop_6 (by decide) (fun h => absurd h (by decide)) (fun c6 => ?_)
    refine e_ldc dX3_drop_9 kkX3_84 ?_
    exact e_iret dX3_drop_11 rfl (⟨rfl, rfl⟩)
  · have q1 := Classical.not_not.mp q1
    exact False.elim (hb q1)

set_option maxHeartbeats 2000000 in
set_option maxRecDepth 20000 in
theorem s_Jdrop_n (m : jM) (r : Nat) (hr : r < 8) (h0 : m (2 + 2 * r) 0 = 0) : iX mX3_drop [.ref 0, .int (nI r)] m (fun v m1 => v = (-1000010) - 1 ∧ jst m 0 17 1 = m1) := by
  refine jX_of (L := [some (.ref 0), some (.int (nI r)), none]) 1 rfl rfl (by decide +kernel) rfl ?_
  refine e_iload_n dX3_drop_0 rfl ?_
  refine e_bipush (v := 8) dX3_drop_1 rfl ?_
  refine e_callSi (n := 2) mX3_isNot [.int (nI r), .int 8] dX3_drop_3 ckX3_80 rfl (by decide +kernel) rfl rfl (Nat.le_of_ble_eq_true rfl) ⟨Nat.zero_le _, Nat.zero_le _⟩ (s_notN m (nI r) 8 8 rfl) (fun v3 m1 hm1 => ?_)
  rcases hm1 with ⟨rfl, ⟨rfl, q1⟩ | ⟨rfl, q1⟩⟩
  · exact False.elim (q1 (inN_nI (by decide) hr))
  · have q1 := Classical.not_not.mp q1
    refine e_if_eq 12 dX3_drop_6 (by decide) (fun c6 => ?_) (fun h => absurd h (by decide))
    refine e_aload_n dX3_drop_12 rfl ?_
    refine e_getR (o := 1) (b := 1) dX3_drop_13 lkX3_11 rfl rfl (by decide) rfl ?_
    refine e_iload_n dX3_drop_16 rfl ?_
    refine e_aald (b := 2 + 2 * r) dX3_drop_17 rfl (by decide) r rfl (by omega) (by decide) rfl ?_
    refine e_astore_n (L' := [some (.ref 0), some (.int (nI r)), some (.ref (2 + 2 * r))]) dX3_drop_18 (Nat.le_of_ble_eq_true rfl) (Nat.le_of_ble_eq_true rfl) (jnl_at (i := 1) rfl) rfl ?_
    refine e_aload_n dX3_drop_19 rfl ?_
    refine e_getI dX3_drop_20 lkX3_96 (isR_l r (by omega)) rfl ?_
    rw [show m (2 + 2 * r) 0 = 0 from h0]
    refine e_if_ne 32 dX3_drop_23 (by decide) (fun h => absurd rfl h) (fun c23 => ?_)
    refine e_aload_n dX3_drop_26 rfl ?_
    refine e_iconst (v := 1) dX3_drop_27 rfl ?_
    refine e_callVi (n := 1) mX3_found [.int 1] dX3_drop_28 ckX3_85 rfl (by decide +kernel) rfl rfl rfl rfl (Nat.le_of_ble_eq_true rfl) ⟨Nat.zero_le _, Nat.zero_le _⟩ (s_found m 1) (fun v28 mw hmw => ?_)
    obtain ⟨rfl, hw⟩ := hmw
    exact e_iret dX3_drop_31 rfl (⟨rfl, hw⟩)

set_option maxHeartbeats 2000000 in
set_option maxRecDepth 20000 in
theorem s_Jdrop (m : jM) (r : Nat) (hr : r < 8) (h0 : m (2 + 2 * r) 0 = 1) (k : Nat) (h2 : m (2 + 2 * r) 2 = nI k) : iX mX3_drop [.ref 0, .int (nI r)] m (fun v m1 => v = nI k ∧ jst (jst m (2 + 2 * r) 0 0) 0 17 0 = m1) := by
  refine jX_of (L := [some (.ref 0), some (.int (nI r)), none]) 1 rfl rfl (by decide +kernel) rfl ?_
  refine e_iload_n dX3_drop_0 rfl ?_
  refine e_bipush (v := 8) dX3_drop_1 rfl ?_
  refine e_callSi (n := 2) mX3_isNot [.int (nI r), .int 8] dX3_drop_3 ckX3_80 rfl (by decide +kernel) rfl rfl (Nat.le_of_ble_eq_true rfl) ⟨Nat.zero_le _, Nat.zero_le _⟩ (s_notN m (nI r) 8 8 rfl) (fun v3 m1 hm1 => ?_)
  rcases hm1 with ⟨rfl, ⟨rfl, q1⟩ | ⟨rfl, q1⟩⟩
  · exact False.elim (q1 (inN_nI (by decide) hr))
  · have q1 := Classical.not_not.mp q1
    refine e_if_eq 12 dX3_drop_6 (by decide) (fun c6 => ?_) (fun h => absurd h (by decide))
    refine e_aload_n dX3_drop_12 rfl ?_
    refine e_getR (o := 1) (b := 1) dX3_drop_13 lkX3_11 rfl rfl (by decide) rfl ?_
    refine e_iload_n dX3_drop_16 rfl ?_
    refine e_aald (b := 2 + 2 * r) dX3_drop_17 rfl (by decide) r rfl (by omega) (by decide) rfl ?_
    refine e_astore_n (L' := [some (.ref 0), some (.int (nI r)), some (.ref (2 + 2 * r))]) dX3_drop_18 (Nat.le_of_ble_eq_true rfl) (Nat.le_of_ble_eq_true rfl) (jnl_at (i := 1) rfl) rfl ?_
    refine e_aload_n dX3_drop_19 rfl ?_
    refine e_getI dX3_drop_20 lkX3_96 (isR_l r (by omega)) rfl ?_
    rw [show m (2 + 2 * r) 0 = 1 from h0]
    refine e_if_ne 32 dX3_drop_23 (by decide) (fun c23 => ?_) (fun h => absurd h (by decide))
    refine e_aload_n dX3_drop_32 rfl ?_
    refine e_iconst (v := 0) dX3_drop_33 rfl ?_
    refine e_putI dX3_drop_34 lkX3_96 (isR_l r (by omega)) rfl fwX1_0 (Or.inr ⟨rfl, by decide⟩) (fun ma hma => ?_)
    refine e_aload_n dX3_drop_37 rfl ?_
    refine e_aload_n dX3_drop_38 rfl ?_
    refine e_getI dX3_drop_39 lkX3_118 (isR_l r (by omega)) rfl ?_
    rw [show ma (2 + 2 * r) 2 = nI k from by rw [hma, jup_s, upd_n _ _ (by decide)]; exact h2]
    refine e_callVi (n := 1) mX3_fine [.int (nI k)] dX3_drop_42 ckX3_93 rfl (by decide +kernel) rfl rfl rfl rfl (Nat.le_of_ble_eq_true rfl) ⟨Nat.zero_le _, Nat.zero_le _⟩ (s_fine ma (nI k)) (fun v42 mw hmw => ?_)
    obtain ⟨rfl, hw⟩ := hmw
    exact e_iret dX3_drop_45 rfl (⟨rfl, by rw [← hw, hma]⟩)

set_option maxHeartbeats 2000000 in
set_option maxRecDepth 20000 in
theorem s_Jfeed_b (m : jM) (x : Int32) (hb : ¬ inN x 256) : iX mX3_feed [.ref 0, .int x] m (fun v m1 => v = -1000001 ∧ m = m1) := by
  refine jX_of (L := [some (.ref 0), some (.int x)]) 0 rfl rfl (by decide +kernel) rfl ?_
  refine e_iload_n dX3_feed_0 rfl ?_
  refine e_sipush (v := 256) dX3_feed_1 rfl ?_
  refine e_callSi (n := 2) mX3_isNot [.int x, .int 256] dX3_feed_4 ckX3_80 rfl (by decide +kernel) rfl rfl (Nat.le_of_ble_eq_true rfl) ⟨Nat.zero_le _, Nat.zero_le _⟩ (s_notN m x 256 256 rfl) (fun v4 m1 hm1 => ?_)
  rcases hm1 with ⟨rfl, ⟨rfl, q1⟩ | ⟨rfl, q1⟩⟩
  · refine e_if_eq 13 dX3_feed_7 (by decide) (fun h => absurd h (by decide)) (fun c7 => ?_)
    refine e_ldc dX3_feed_10 kkX3_84 ?_
    exact e_iret dX3_feed_12 rfl (⟨rfl, rfl⟩)
  · have q1 := Classical.not_not.mp q1
    exact False.elim (hb q1)

set_option maxHeartbeats 2000000 in
set_option maxRecDepth 20000 in
theorem s_Jfeed_f (m : jM) (x : Int32) (hb : inN x 256) (hc : m 18 1 = 120) : iX mX3_feed [.ref 0, .int x] m (fun v m1 => v = -1000003 ∧ m = m1) := by
  refine jX_of (L := [some (.ref 0), some (.int x)]) 0 rfl rfl (by decide +kernel) rfl ?_
  refine e_iload_n dX3_feed_0 rfl ?_
  refine e_sipush (v := 256) dX3_feed_1 rfl ?_
  refine e_callSi (n := 2) mX3_isNot [.int x, .int 256] dX3_feed_4 ckX3_80 rfl (by decide +kernel) rfl rfl (Nat.le_of_ble_eq_true rfl) ⟨Nat.zero_le _, Nat.zero_le _⟩ (s_notN m x 256 256 rfl) (fun v4 m1 hm1 => ?_)
  rcases hm1 with ⟨rfl, ⟨rfl, q1⟩ | ⟨rfl, q1⟩⟩
  · exact False.elim (q1 hb)
  · have q1 := Classical.not_not.mp q1
    refine e_if_eq 13 dX3_feed_7 (by decide) (fun c7 => ?_) (fun h => absurd h (by decide))
    refine e_aload_n dX3_feed_13 rfl ?_
    refine e_getR (o := 18) (b := 18) dX3_feed_14 lkX3_18 rfl rfl (by decide) rfl ?_
    refine e_getI dX3_feed_17 lkX3_121 rfl rfl ?_
    rw [show m 18 1 = 120 from hc]
    refine e_bipush (v := 120) dX3_feed_20 rfl ?_
    refine e_icmp_lt 28 dX3_feed_22 (by decide) (fun h => absurd h (by decide)) (fun c22 => ?_)
    refine e_ldc dX3_feed_25 kkX3_122 ?_
    exact e_iret dX3_feed_27 rfl (⟨rfl, rfl⟩)

set_option maxHeartbeats 2000000 in
set_option maxRecDepth 20000 in
theorem s_Jfeed (m : jM) (x : Int32) (hb : inN x 256) (k : Nat) (hk : k < 120) (hc : m 18 1 = nI k) : iX mX3_feed [.ref 0, .int x] m (fun v m1 => v = nI (k + 1) ∧ jst (jst m 19 k x) 18 1 (nI (k + 1)) = m1) := by
  refine jX_of (L := [some (.ref 0), some (.int x)]) 0 rfl rfl (by decide +kernel) rfl ?_
  refine e_iload_n dX3_feed_0 rfl ?_
  refine e_sipush (v := 256) dX3_feed_1 rfl ?_
  refine e_callSi (n := 2) mX3_isNot [.int x, .int 256] dX3_feed_4 ckX3_80 rfl (by decide +kernel) rfl rfl (Nat.le_of_ble_eq_true rfl) ⟨Nat.zero_le _, Nat.zero_le _⟩ (s_notN m x 256 256 rfl) (fun v4 m1 hm1 => ?_)
  rcases hm1 with ⟨rfl, ⟨rfl, q1⟩ | ⟨rfl, q1⟩⟩
  · exact False.elim (q1 hb)
  · have q1 := Classical.not_not.mp q1
    refine e_if_eq 13 dX3_feed_7 (by decide) (fun c7 => ?_) (fun h => absurd h (by decide))
    refine e_aload_n dX3_feed_13 rfl ?_
    refine e_getR (o := 18) (b := 18) dX3_feed_14 lkX3_18 rfl rfl (by decide) rfl ?_
    refine e_getI dX3_feed_17 lkX3_121 rfl rfl ?_
    rw [show m 18 1 = nI k from hc]
    refine e_bipush (v := 120) dX3_feed_20 rfl ?_
    refine e_icmp_lt 28 dX3_feed_22 (by decide) (fun c22 => ?_) (fun h => absurd ((j_lt (by omega) (by decide) (b := 120)).mpr hk) h)
    refine e_aload_n dX3_feed_28 rfl ?_
    refine e_getR (o := 18) (b := 18) dX3_feed_29 lkX3_18 rfl rfl (by decide) rfl ?_
    refine e_getR (o := 1) (b := 19) dX3_feed_32 lkX3_123 rfl rfl (by decide) rfl ?_
    refine e_aload_n dX3_feed_35 rfl ?_
    refine e_getR (o := 18) (b := 18) dX3_feed_36 lkX3_18 rfl rfl (by decide) rfl ?_
    refine e_getI dX3_feed_39 lkX3_121 rfl rfl ?_
    rw [show m 18 1 = nI k from hc]
    refine e_iload_n dX3_feed_42 rfl ?_
    refine e_iast dX3_feed_43 rfl k rfl (by omega) (by decide) (fun ma hma => ?_)
    refine e_aload_n dX3_feed_44 rfl ?_
    refine e_getR (o := 18) (b := 18) dX3_feed_45 lkX3_18 rfl rfl (by decide) rfl ?_
    refine e_dup dX3_feed_48 rfl ?_
    refine e_getI dX3_feed_49 lkX3_121 rfl rfl ?_
    rw [show ma 18 1 = nI k from by rw [hma, jup_n _ _ (by decide)]; exact hc]
    refine e_iconst (v := 1) dX3_feed_52 rfl ?_
    refine e_iadd dX3_feed_53 ?_
    rw [show (nI k) + 1 = nI (k + 1) from nI_1 k]
    refine e_putI dX3_feed_54 lkX3_121 rfl rfl fwX2_1 (Or.inl rfl) (fun mb hmb => ?_)
    refine e_aload_n dX3_feed_57 rfl ?_
    refine e_getR (o := 18) (b := 18) dX3_feed_58 lkX3_18 rfl rfl (by decide) rfl ?_
    refine e_getI dX3_feed_61 lkX3_121 rfl rfl ?_
    rw [show mb 18 1 = nI (k + 1) from by rw [hmb, jup_s, upd_s]]
    exact e_iret dX3_feed_64 rfl (⟨rfl, by rw [hmb, hma]⟩)

set_option maxHeartbeats 2000000 in
set_option maxRecDepth 20000 in
theorem s_Jfault (m : jM) : iX mX3_fault [.ref 0] m (fun v m1 => v = m 0 16 ∧ m = m1) := by
  refine jX_of (L := [some (.ref 0)]) 0 rfl rfl (by decide +kernel) rfl ?_
  refine e_aload_n dX3_fault_0 rfl ?_
  refine e_getI dX3_fault_1 lkX3_73 rfl rfl ?_
  exact e_iret dX3_fault_4 rfl (⟨rfl, rfl⟩)

set_option maxHeartbeats 2000000 in
set_option maxRecDepth 20000 in
theorem s_Jstatus (m : jM) : iX mX3_status [.ref 0] m (fun v m1 => v = m 0 17 ∧ m = m1) := by
  refine jX_of (L := [some (.ref 0)]) 0 rfl rfl (by decide +kernel) rfl ?_
  refine e_aload_n dX3_status_0 rfl ?_
  refine e_getI dX3_status_1 lkX3_76 rfl rfl ?_
  exact e_iret dX3_status_4 rfl (⟨rfl, rfl⟩)

set_option maxHeartbeats 2000000 in
set_option maxRecDepth 20000 in
theorem s_Jpan_b (m : jM) (st : Nat → Int32) (V P : Nat) (hV : V ≤ 3) (hP : P ≤ 5) (hR : RK m 20 st V P) (x w : Int32) (hb : ¬ inN x P) : iX mX3_pan [.ref 0, .int x, .int w] m (fun v m1 => v = -1000001 ∧ m = m1) := by
  refine jX_of (L := [some (.ref 0), some (.int x), some (.int w)]) 0 rfl rfl (by decide +kernel) rfl ?_
  refine e_iload_n dX3_pan_0 rfl ?_
  refine e_aload_n dX3_pan_1 rfl ?_
  refine e_getR (o := 20) (b := 20) dX3_pan_2 lkX3_25 rfl rfl (by decide) rfl ?_
  refine e_getI dX3_pan_5 lkX3_140 rfl rfl ?_
  rw [show m 20 6 = nI P from hR.ps]
  refine e_callSi (n := 2) mX3_isNot [.int x, .int (nI P)] dX3_pan_8 ckX3_80 rfl (by decide +kernel) rfl rfl (Nat.le_of_ble_eq_true rfl) ⟨Nat.zero_le _, Nat.zero_le _⟩ (s_notN m x (nI P) P rfl) (fun v8 m1 hm1 => ?_)
  rcases hm1 with ⟨rfl, ⟨rfl, q⟩ | ⟨rfl, q⟩⟩
  · refine e_if_eq 17 dX3_pan_11 (by decide) (fun h => absurd h (by decide)) (fun c11 => ?_)
    refine e_ldc dX3_pan_14 kkX3_84 ?_
    exact e_iret dX3_pan_16 rfl (⟨rfl, rfl⟩)
  · have q := Classical.not_not.mp q
    exact False.elim (hb q)

set_option maxHeartbeats 2000000 in
set_option maxRecDepth 20000 in
theorem s_Jpan (m : jM) (st : Nat → Int32) (V P : Nat) (hV : V ≤ 3) (hP : P ≤ 5) (hR : RK m 20 st V P) (hW : WK st V P) (p : Nat) (w : Int32) (hp : p < P) : iX mX3_pan [.ref 0, .int (nI p), .int w] m (fun v m1 => v = panV st p w ∧ m = m1) := by
  refine jX_of (L := [some (.ref 0), some (.int (nI p)), some (.int w)]) 0 rfl rfl (by decide +kernel) rfl ?_
  refine e_iload_n dX3_pan_0 rfl ?_
  refine e_aload_n dX3_pan_1 rfl ?_
  refine e_getR (o := 20) (b := 20) dX3_pan_2 lkX3_25 rfl rfl (by decide) rfl ?_
  refine e_getI dX3_pan_5 lkX3_140 rfl rfl ?_
  rw [show m 20 6 = nI P from hR.ps]
  refine e_callSi (n := 2) mX3_isNot [.int (nI p), .int (nI P)] dX3_pan_8 ckX3_80 rfl (by decide +kernel) rfl rfl (Nat.le_of_ble_eq_true rfl) ⟨Nat.zero_le _, Nat.zero_le _⟩ (s_notN m (nI p) (nI P) P rfl) (fun v8 m1 hm1 => ?_)
  rcases hm1 with ⟨rfl, ⟨rfl, q0⟩ | ⟨rfl, q0⟩⟩
  · exact False.elim (q0 (inN_nI (by omega) hp))
  · have q0 := Classical.not_not.mp q0
    refine e_if_eq 17 dX3_pan_11 (by decide) (fun c11 => ?_) (fun h => absurd h (by decide))
    refine e_iload_n dX3_pan_17 rfl ?_
    by_cases z18_0 : w = 0
    · subst z18_0
      refine e_tsIn 56 dX3_pan_18 (by decide) (by decide) rfl (by decide) ?_
      refine e_aload_n dX3_pan_56 rfl ?_
      refine e_getR (o := 20) (b := 20) dX3_pan_57 lkX3_25 rfl rfl (by decide) rfl ?_
      refine e_getR (o := 5) (b := 25) dX3_pan_60 lkX3_170 rfl rfl (by decide) rfl ?_
      refine e_iload_n dX3_pan_63 rfl ?_
      refine e_iald dX3_pan_64 rfl p rfl (by omega) (by decide) ?_
      rw [show m 25 p = st (21 + p) from hR.md p hp]
      exact e_iret dX3_pan_65 rfl (⟨by unfold panV; simp_all, rfl⟩)
    by_cases z18_1 : w = 1
    · subst z18_1
      refine e_tsIn 66 dX3_pan_18 (by decide) (by decide) rfl (by decide) ?_
      refine e_aload_n dX3_pan_66 rfl ?_
      refine e_getR (o := 20) (b := 20) dX3_pan_67 lkX3_25 rfl rfl (by decide) rfl ?_
      refine e_getR (o := 6) (b := 26) dX3_pan_70 lkX3_173 rfl rfl (by decide) rfl ?_
      refine e_iload_n dX3_pan_73 rfl ?_
      refine e_iald dX3_pan_74 rfl p rfl (by omega) (by decide) ?_
      rw [show m 26 p = st (26 + p) from hR.nd p hp]
      exact e_iret dX3_pan_75 rfl (⟨by unfold panV; simp_all, rfl⟩)
    by_cases z18_2 : w = 2
    · subst z18_2
      refine e_tsIn 76 dX3_pan_18 (by decide) (by decide) rfl (by decide) ?_
      refine e_aload_n dX3_pan_76 rfl ?_
      refine e_getR (o := 20) (b := 20) dX3_pan_77 lkX3_25 rfl rfl (by decide) rfl ?_
      refine e_getR (o := 8) (b := 28) dX3_pan_80 lkX3_164 rfl rfl (by decide) rfl ?_
      refine e_iload_n dX3_pan_83 rfl ?_
      refine e_iald dX3_pan_84 rfl p rfl (by omega) (by decide) ?_
      rw [show m 28 p = st (31 + p) from hR.hr p hp]
      exact e_iret dX3_pan_85 rfl (⟨by unfold panV; simp_all, rfl⟩)
    by_cases z18_3 : w = 3
    · subst z18_3
      refine e_tsIn 86 dX3_pan_18 (by decide) (by decide) rfl (by decide) ?_
      refine e_aload_n dX3_pan_86 rfl ?_
      refine e_getR (o := 20) (b := 20) dX3_pan_87 lkX3_25 rfl rfl (by decide) rfl ?_
      refine e_getR (o := 9) (b := 29) dX3_pan_90 lkX3_176 rfl rfl (by decide) rfl ?_
      refine e_iload_n dX3_pan_93 rfl ?_
      refine e_iald dX3_pan_94 rfl p rfl (by omega) (by decide) ?_
      rw [show m 29 p = st (36 + p) from hR.tk p hp]
      exact e_iret dX3_pan_95 rfl (⟨by unfold panV; simp_all, rfl⟩)
    by_cases z18_4 : w = 4
    · subst z18_4
      refine e_tsIn 96 dX3_pan_18 (by decide) (by decide) rfl (by decide) ?_
      refine e_aload_n dX3_pan_96 rfl ?_
      refine e_getR (o := 20) (b := 20) dX3_pan_97 lkX3_25 rfl rfl (by decide) rfl ?_
      refine e_iload_n dX3_pan_100 rfl ?_
      refine e_callVi (n := 1) mX0_isSet [.int (nI p)] dX3_pan_101 ckX3_179 rfl (by decide +kernel) rfl rfl rfl rfl (Nat.le_of_ble_eq_true rfl) ⟨Nat.zero_le _, Nat.zero_le _⟩ (s_Cset 20 k20 m st V P hP hR p hp) (fun v101 m2 hm2 => ?_)
      rcases hm2 with ⟨rfl, ⟨rfl, q⟩ | ⟨rfl, q⟩⟩
      · refine e_if_eq 111 dX3_pan_104 (by decide) (fun h => absurd h (by decide)) (fun c104 => ?_)
        refine e_iconst (v := 1) dX3_pan_107 rfl ?_
        refine e_goto 112 dX3_pan_108 (by decide) ?_
        exact e_iret dX3_pan_112 rfl (⟨by unfold panV; rw [hW.dn p hp]; first | (rw [if_pos q]; rfl) | (rw [if_neg q]; rfl), rfl⟩)
      · refine e_if_eq 111 dX3_pan_104 (by decide) (fun c104 => ?_) (fun h => absurd h (by decide))
        refine e_iconst (v := 0) dX3_pan_111 rfl ?_
        exact e_iret dX3_pan_112 rfl (⟨by unfold panV; rw [hW.dn p hp]; first | (rw [if_pos q]; rfl) | (rw [if_neg q]; rfl), rfl⟩)
    by_cases z18_5 : w = 5
    · subst z18_5
      refine e_tsIn 113 dX3_pan_18 (by decide) (by decide) rfl (by decide) ?_
      refine e_aload_n dX3_pan_113 rfl ?_
      refine e_getR (o := 20) (b := 20) dX3_pan_114 lkX3_25 rfl rfl (by decide) rfl ?_
      refine e_getR (o := 10) (b := 30) dX3_pan_117 lkX3_183 rfl rfl (by decide) rfl ?_
      refine e_iload_n dX3_pan_120 rfl ?_
      refine e_iald dX3_pan_121 rfl p rfl (by omega) (by decide) ?_
      rw [show m 30 p = st (46 + p) from hR.hd p hp]
      exact e_iret dX3_pan_122 rfl (⟨by unfold panV; simp_all, rfl⟩)
    refine e_tsOut 123 dX3_pan_18 (j_out6 z18_0 z18_1 z18_2 z18_3 z18_4 z18_5) (by decide) ?_
    refine e_ldc dX3_pan_123 kkX3_84 ?_
    exact e_iret dX3_pan_125 rfl (⟨by unfold panV; simp_all, rfl⟩)

set_option maxHeartbeats 2000000 in
set_option maxRecDepth 20000 in
theorem s_Jsinger_b (m : jM) (st : Nat → Int32) (V P : Nat) (hV : V ≤ 3) (hP : P ≤ 5) (hR : RK m 20 st V P) (x w : Int32) (hb : ¬ inN x V) : iX mX3_singer [.ref 0, .int x, .int w] m (fun v m1 => v = -1000001 ∧ m = m1) := by
  refine jX_of (L := [some (.ref 0), some (.int x), some (.int w)]) 0 rfl rfl (by decide +kernel) rfl ?_
  refine e_iload_n dX3_singer_0 rfl ?_
  refine e_aload_n dX3_singer_1 rfl ?_
  refine e_getR (o := 20) (b := 20) dX3_singer_2 lkX3_25 rfl rfl (by decide) rfl ?_
  refine e_getI dX3_singer_5 lkX3_147 rfl rfl ?_
  rw [show m 20 2 = nI V from hR.vs]
  refine e_callSi (n := 2) mX3_isNot [.int x, .int (nI V)] dX3_singer_8 ckX3_80 rfl (by decide +kernel) rfl rfl (Nat.le_of_ble_eq_true rfl) ⟨Nat.zero_le _, Nat.zero_le _⟩ (s_notN m x (nI V) V rfl) (fun v8 m1 hm1 => ?_)
  rcases hm1 with ⟨rfl, ⟨rfl, q⟩ | ⟨rfl, q⟩⟩
  · refine e_if_eq 17 dX3_singer_11 (by decide) (fun h => absurd h (by decide)) (fun c11 => ?_)
    refine e_ldc dX3_singer_14 kkX3_84 ?_
    exact e_iret dX3_singer_16 rfl (⟨rfl, rfl⟩)
  · have q := Classical.not_not.mp q
    exact False.elim (hb q)

set_option maxHeartbeats 2000000 in
set_option maxRecDepth 20000 in
theorem s_Jsinger (m : jM) (st : Nat → Int32) (V P : Nat) (hV : V ≤ 3) (hP : P ≤ 5) (hR : RK m 20 st V P) (p : Nat) (w : Int32) (hp : p < V) : iX mX3_singer [.ref 0, .int (nI p), .int w] m (fun v m1 => v = sngV st p w ∧ m = m1) := by
  refine jX_of (L := [some (.ref 0), some (.int (nI p)), some (.int w)]) 0 rfl rfl (by decide +kernel) rfl ?_
  refine e_iload_n dX3_singer_0 rfl ?_
  refine e_aload_n dX3_singer_1 rfl ?_
  refine e_getR (o := 20) (b := 20) dX3_singer_2 lkX3_25 rfl rfl (by decide) rfl ?_
  refine e_getI dX3_singer_5 lkX3_147 rfl rfl ?_
  rw [show m 20 2 = nI V from hR.vs]
  refine e_callSi (n := 2) mX3_isNot [.int (nI p), .int (nI V)] dX3_singer_8 ckX3_80 rfl (by decide +kernel) rfl rfl (Nat.le_of_ble_eq_true rfl) ⟨Nat.zero_le _, Nat.zero_le _⟩ (s_notN m (nI p) (nI V) V rfl) (fun v8 m1 hm1 => ?_)
  rcases hm1 with ⟨rfl, ⟨rfl, q0⟩ | ⟨rfl, q0⟩⟩
  · exact False.elim (q0 (inN_nI (by omega) hp))
  · have q0 := Classical.not_not.mp q0
    refine e_if_eq 17 dX3_singer_11 (by decide) (fun c11 => ?_) (fun h => absurd h (by decide))
    refine e_iload_n dX3_singer_17 rfl ?_
    by_cases z18_0 : w = 0
    · subst z18_0
      refine e_tsIn 48 dX3_singer_18 (by decide) (by decide) rfl (by decide) ?_
      refine e_aload_n dX3_singer_48 rfl ?_
      refine e_getR (o := 20) (b := 20) dX3_singer_49 lkX3_25 rfl rfl (by decide) rfl ?_
      refine e_getR (o := 1) (b := 21) dX3_singer_52 lkX3_186 rfl rfl (by decide) rfl ?_
      refine e_iload_n dX3_singer_55 rfl ?_
      refine e_iald dX3_singer_56 rfl p rfl (by omega) (by decide) ?_
      rw [show m 21 p = st (4 + p) from hR.lo p hp]
      exact e_iret dX3_singer_57 rfl (⟨by unfold sngV; simp_all, rfl⟩)
    by_cases z18_1 : w = 1
    · subst z18_1
      refine e_tsIn 58 dX3_singer_18 (by decide) (by decide) rfl (by decide) ?_
      refine e_aload_n dX3_singer_58 rfl ?_
      refine e_getR (o := 20) (b := 20) dX3_singer_59 lkX3_25 rfl rfl (by decide) rfl ?_
      refine e_getR (o := 2) (b := 22) dX3_singer_62 lkX3_189 rfl rfl (by decide) rfl ?_
      refine e_iload_n dX3_singer_65 rfl ?_
      refine e_iald dX3_singer_66 rfl p rfl (by omega) (by decide) ?_
      rw [show m 22 p = st (7 + p) from hR.hi p hp]
      exact e_iret dX3_singer_67 rfl (⟨by unfold sngV; simp_all, rfl⟩)
    by_cases z18_2 : w = 2
    · subst z18_2
      refine e_tsIn 68 dX3_singer_18 (by decide) (by decide) rfl (by decide) ?_
      refine e_aload_n dX3_singer_68 rfl ?_
      refine e_getR (o := 20) (b := 20) dX3_singer_69 lkX3_25 rfl rfl (by decide) rfl ?_
      refine e_getR (o := 3) (b := 23) dX3_singer_72 lkX3_192 rfl rfl (by decide) rfl ?_
      refine e_iload_n dX3_singer_75 rfl ?_
      refine e_iald dX3_singer_76 rfl p rfl (by omega) (by decide) ?_
      rw [show m 23 p = st (10 + p) from hR.bt p hp]
      exact e_iret dX3_singer_77 rfl (⟨by unfold sngV; simp_all, rfl⟩)
    by_cases z18_3 : w = 3
    · subst z18_3
      refine e_tsIn 78 dX3_singer_18 (by decide) (by decide) rfl (by decide) ?_
      refine e_aload_n dX3_singer_78 rfl ?_
      refine e_getR (o := 20) (b := 20) dX3_singer_79 lkX3_25 rfl rfl (by decide) rfl ?_
      refine e_getR (o := 7) (b := 27) dX3_singer_82 lkX3_195 rfl rfl (by decide) rfl ?_
      refine e_iload_n dX3_singer_85 rfl ?_
      refine e_iald dX3_singer_86 rfl p rfl (by omega) (by decide) ?_
      rw [show m 27 p = st (13 + p) from hR.sg p hp]
      exact e_iret dX3_singer_87 rfl (⟨by unfold sngV; simp_all, rfl⟩)
    refine e_tsOut 88 dX3_singer_18 (j_out4 z18_0 z18_1 z18_2 z18_3) (by decide) ?_
    refine e_ldc dX3_singer_88 kkX3_84 ?_
    exact e_iret dX3_singer_90 rfl (⟨by unfold sngV; simp_all, rfl⟩)

set_option maxHeartbeats 2000000 in
set_option maxRecDepth 20000 in
theorem s_Jkind_b (m : jM) (st : Nat → Int32) (V P : Nat) (hV : V ≤ 3) (hP : P ≤ 5) (hR : RK m 20 st V P) (x : Int32) (hb : ¬ inN x P) : iX mX3_kind [.ref 0, .int x] m (fun v m1 => v = -1000001 ∧ m = m1) := by
  refine jX_of (L := [some (.ref 0), some (.int x)]) 0 rfl rfl (by decide +kernel) rfl ?_
  refine e_iload_n dX3_kind_0 rfl ?_
  refine e_aload_n dX3_kind_1 rfl ?_
  refine e_getR (o := 20) (b := 20) dX3_kind_2 lkX3_25 rfl rfl (by decide) rfl ?_
  refine e_getI dX3_kind_5 lkX3_140 rfl rfl ?_
  rw [show m 20 6 = nI P from hR.ps]
  refine e_callSi (n := 2) mX3_isNot [.int x, .int (nI P)] dX3_kind_8 ckX3_80 rfl (by decide +kernel) rfl rfl (Nat.le_of_ble_eq_true rfl) ⟨Nat.zero_le _, Nat.zero_le _⟩ (s_notN m x (nI P) P rfl) (fun v8 m1 hm1 => ?_)
  rcases hm1 with ⟨rfl, ⟨rfl, q⟩ | ⟨rfl, q⟩⟩
  · refine e_if_eq 19 dX3_kind_11 (by decide) (fun h => absurd h (by decide)) (fun c11 => ?_)
    refine e_ldc dX3_kind_14 kkX3_84 ?_
    refine e_goto 28 dX3_kind_16 (by decide) ?_
    exact e_iret dX3_kind_28 rfl (⟨rfl, rfl⟩)
  · have q := Classical.not_not.mp q
    exact False.elim (hb q)

set_option maxHeartbeats 2000000 in
set_option maxRecDepth 20000 in
theorem s_Jkind (m : jM) (st : Nat → Int32) (V P : Nat) (hV : V ≤ 3) (hP : P ≤ 5) (hR : RK m 20 st V P) (p : Nat) (hp : p < P) : iX mX3_kind [.ref 0, .int (nI p)] m (fun v m1 => v = st (16 + p) ∧ m = m1) := by
  refine jX_of (L := [some (.ref 0), some (.int (nI p))]) 0 rfl rfl (by decide +kernel) rfl ?_
  refine e_iload_n dX3_kind_0 rfl ?_
  refine e_aload_n dX3_kind_1 rfl ?_
  refine e_getR (o := 20) (b := 20) dX3_kind_2 lkX3_25 rfl rfl (by decide) rfl ?_
  refine e_getI dX3_kind_5 lkX3_140 rfl rfl ?_
  rw [show m 20 6 = nI P from hR.ps]
  refine e_callSi (n := 2) mX3_isNot [.int (nI p), .int (nI P)] dX3_kind_8 ckX3_80 rfl (by decide +kernel) rfl rfl (Nat.le_of_ble_eq_true rfl) ⟨Nat.zero_le _, Nat.zero_le _⟩ (s_notN m (nI p) (nI P) P rfl) (fun v8 m1 hm1 => ?_)
  rcases hm1 with ⟨rfl, ⟨rfl, q0⟩ | ⟨rfl, q0⟩⟩
  · exact False.elim (q0 (inN_nI (by omega) hp))
  · have q0 := Classical.not_not.mp q0
    refine e_if_eq 19 dX3_kind_11 (by decide) (fun c11 => ?_) (fun h => absurd h (by decide))
    refine e_aload_n dX3_kind_19 rfl ?_
    refine e_getR (o := 20) (b := 20) dX3_kind_20 lkX3_25 rfl rfl (by decide) rfl ?_
    refine e_getR (o := 4) (b := 24) dX3_kind_23 lkX3_236 rfl rfl (by decide) rfl ?_
    refine e_iload_n dX3_kind_26 rfl ?_
    refine e_iald dX3_kind_27 rfl p rfl (by omega) (by decide) ?_
    rw [show m 24 p = st (16 + p) from hR.kd p hp]
    exact e_iret dX3_kind_28 rfl (⟨rfl, rfl⟩)

set_option maxHeartbeats 2000000 in
set_option maxRecDepth 20000 in
theorem s_Jas_b (m : jM) (st : Nat → Int32) (V P : Nat) (hV : V ≤ 3) (hP : P ≤ 5) (hR : RK m 20 st V P) (x a : Int32) (hb : ¬ (inN x P ∧ inN a 6)) : iX mX3_as [.ref 0, .int x, .int a] m (fun v m1 => v = -1000001 ∧ m = m1) := by
  refine jX_of (L := [some (.ref 0), some (.int x), some (.int a)]) 0 rfl rfl (by decide +kernel) rfl ?_
  refine e_iload_n dX3_as_0 rfl ?_
  refine e_aload_n dX3_as_1 rfl ?_
  refine e_getR (o := 20) (b := 20) dX3_as_2 lkX3_25 rfl rfl (by decide) rfl ?_
  refine e_getI dX3_as_5 lkX3_140 rfl rfl ?_
  rw [show m 20 6 = nI P from hR.ps]
  refine e_callSi (n := 2) mX3_isNot [.int x, .int (nI P)] dX3_as_8 ckX3_80 rfl (by decide +kernel) rfl rfl (Nat.le_of_ble_eq_true rfl) ⟨Nat.zero_le _, Nat.zero_le _⟩ (s_notN m x (nI P) P rfl) (fun v8 m1 hm1 => ?_)
  rcases hm1 with ⟨rfl, ⟨rfl, q⟩ | ⟨rfl, q⟩⟩
  · refine e_if_ne 23 dX3_as_11 (by decide) (fun c11 => ?_) (fun h => absurd h (by decide))
    refine e_ldc dX3_as_23 kkX3_84 ?_
    exact e_iret dX3_as_25 rfl (⟨rfl, rfl⟩)
  · have q := Classical.not_not.mp q
    refine e_if_ne 23 dX3_as_11 (by decide) (fun h => absurd h (by decide)) (fun c11 => ?_)
    refine e_iload_n dX3_as_14 rfl ?_
    refine e_bipush (v := 6) dX3_as_15 rfl ?_
    refine e_callSi (n := 2) mX3_isNot [.int a, .int 6] dX3_as_17 ckX3_80 rfl (by decide +kernel) rfl rfl (Nat.le_of_ble_eq_true rfl) ⟨Nat.zero_le _, Nat.zero_le _⟩ (s_notN m a 6 6 rfl) (fun v17 m2 hm2 => ?_)
    rcases hm2 with ⟨rfl, ⟨rfl, q2⟩ | ⟨rfl, q2⟩⟩
    · refine e_if_eq 26 dX3_as_20 (by decide) (fun h => absurd h (by decide)) (fun c20 => ?_)
      refine e_ldc dX3_as_23 kkX3_84 ?_
      exact e_iret dX3_as_25 rfl (⟨rfl, rfl⟩)
    · have q2 := Classical.not_not.mp q2
      exact False.elim (hb ⟨q, q2⟩)

set_option maxHeartbeats 2000000 in
set_option maxRecDepth 20000 in
theorem s_Jas (m : jM) (st : Nat → Int32) (V P : Nat) (hV : V ≤ 3) (hP : P ≤ 5) (hR : RK m 20 st V P) (hW : WK st V P) (p : Nat) (hp : p < P) (a : Nat) (ha : a < 6) : iX mX3_as [.ref 0, .int (nI p), .int (nI a)] m (fun v m1 => (kindP (st (16 + p)) (nI a) ∧ v = nI p ∧ jst m 0 17 0 = m1) ∨ (¬ kindP (st (16 + p)) (nI a) ∧ v = -1000013 ∧ jst m 0 17 3 = m1)) := by
  obtain ⟨kn, hkn, ekn⟩ := j_ran (n := 5) (by decide) ⟨Int32.le_trans (by decide) (hW.kd p hp).1, (hW.kd p hp).2⟩
  have k1 : 1 ≤ kn := by have := (hW.kd p hp).1; rw [ekn] at this; exact (j_le (a := 1) (by decide) (by omega)).mp this
  refine jX_of (L := [some (.ref 0), some (.int (nI p)), some (.int (nI a))]) 0 rfl rfl (by decide +kernel) rfl ?_
  refine e_iload_n dX3_as_0 rfl ?_
  refine e_aload_n dX3_as_1 rfl ?_
  refine e_getR (o := 20) (b := 20) dX3_as_2 lkX3_25 rfl rfl (by decide) rfl ?_
  refine e_getI dX3_as_5 lkX3_140 rfl rfl ?_
  rw [show m 20 6 = nI P from hR.ps]
  refine e_callSi (n := 2) mX3_isNot [.int (nI p), .int (nI P)] dX3_as_8 ckX3_80 rfl (by decide +kernel) rfl rfl (Nat.le_of_ble_eq_true rfl) ⟨Nat.zero_le _, Nat.zero_le _⟩ (s_notN m (nI p) (nI P) P rfl) (fun v8 m1 hm1 => ?_)
  rcases hm1 with ⟨rfl, ⟨rfl, q0⟩ | ⟨rfl, q0⟩⟩
  · exact False.elim (q0 (inN_nI (by omega) hp))
  · have q0 := Classical.not_not.mp q0
    refine e_if_ne 23 dX3_as_11 (by decide) (fun h => absurd h (by decide)) (fun c11 => ?_)
    refine e_iload_n dX3_as_14 rfl ?_
    refine e_bipush (v := 6) dX3_as_15 rfl ?_
    refine e_callSi (n := 2) mX3_isNot [.int (nI a), .int 6] dX3_as_17 ckX3_80 rfl (by decide +kernel) rfl rfl (Nat.le_of_ble_eq_true rfl) ⟨Nat.zero_le _, Nat.zero_le _⟩ (s_notN m (nI a) 6 6 rfl) (fun v17 m2 hm2 => ?_)
    rcases hm2 with ⟨rfl, ⟨rfl, q2⟩ | ⟨rfl, q2⟩⟩
    · exact False.elim (q2 (inN_nI (by decide) ha))
    · have q2 := Classical.not_not.mp q2
      refine e_if_eq 26 dX3_as_20 (by decide) (fun c20 => ?_) (fun h => absurd h (by decide))
      refine e_aload_n dX3_as_26 rfl ?_
      refine e_getR (o := 20) (b := 20) dX3_as_27 lkX3_25 rfl rfl (by decide) rfl ?_
      refine e_getR (o := 4) (b := 24) dX3_as_30 lkX3_236 rfl rfl (by decide) rfl ?_
      refine e_iload_n dX3_as_33 rfl ?_
      refine e_iald dX3_as_34 rfl p rfl (by omega) (by decide) ?_
      rw [show m 24 p = nI kn from by rw [← ekn]; exact hR.kd p hp]
      refine e_iload_n dX3_as_35 rfl ?_
      refine e_callSi (n := 2) mX3_isOf [.int (nI kn), .int (nI a)] dX3_as_36 ckX3_239 rfl (by decide +kernel) rfl rfl (Nat.le_of_ble_eq_true rfl) ⟨Nat.zero_le _, Nat.zero_le _⟩ (s_isOf m kn a (by omega) (by omega) k1) (fun v36 m3 hm3 => ?_)
      rcases hm3 with ⟨rfl, ⟨rfl, q⟩ | ⟨rfl, q⟩⟩
      · refine e_if_eq 50 dX3_as_39 (by decide) (fun h => absurd h (by decide)) (fun c39 => ?_)
        refine e_aload_n dX3_as_42 rfl ?_
        refine e_iload_n dX3_as_43 rfl ?_
        refine e_callVi (n := 1) mX3_fine [.int (nI p)] dX3_as_44 ckX3_93 rfl (by decide +kernel) rfl rfl rfl rfl (Nat.le_of_ble_eq_true rfl) ⟨Nat.zero_le _, Nat.zero_le _⟩ (s_fine m (nI p)) (fun v44 mw hmw => ?_)
        obtain ⟨rfl, hw⟩ := hmw
        refine e_goto 55 dX3_as_47 (by decide) ?_
        exact e_iret dX3_as_55 rfl (by rw [ekn]; first | exact Or.inl ⟨q, rfl, hw⟩ | exact Or.inr ⟨q, by decide, hw⟩)
      · refine e_if_eq 50 dX3_as_39 (by decide) (fun c39 => ?_) (fun h => absurd h (by decide))
        refine e_aload_n dX3_as_50 rfl ?_
        refine e_iconst (v := 3) dX3_as_51 rfl ?_
        refine e_callVi (n := 1) mX3_found [.int 3] dX3_as_52 ckX3_85 rfl (by decide +kernel) rfl rfl rfl rfl (Nat.le_of_ble_eq_true rfl) ⟨Nat.zero_le _, Nat.zero_le _⟩ (s_found m 3) (fun v52 mw hmw => ?_)
        obtain ⟨rfl, hw⟩ := hmw
        exact e_iret dX3_as_55 rfl (by rw [ekn]; first | exact Or.inl ⟨q, rfl, hw⟩ | exact Or.inr ⟨q, by decide, hw⟩)

set_option maxHeartbeats 2000000 in
set_option maxRecDepth 20000 in
theorem s_Jtrace_b (m : jM) (x : Int32) (k : Nat) (hc : m 0 15 = nI k) (hb : ¬ inN x k) : iX mX3_trace [.ref 0, .int x] m (fun v m1 => v = -1000000 ∧ m = m1) := by
  refine jX_of (L := [some (.ref 0), some (.int x)]) 0 rfl rfl (by decide +kernel) rfl ?_
  refine e_iload_n dX3_trace_0 rfl ?_
  refine e_aload_n dX3_trace_1 rfl ?_
  refine e_getI dX3_trace_2 lkX3_70 rfl rfl ?_
  rw [show m 0 15 = nI k from hc]
  refine e_callSi (n := 2) mX3_isNot [.int x, .int (nI k)] dX3_trace_5 ckX3_80 rfl (by decide +kernel) rfl rfl (Nat.le_of_ble_eq_true rfl) ⟨Nat.zero_le _, Nat.zero_le _⟩ (s_notN m x (nI k) k rfl) (fun v5 m1 hm1 => ?_)
  rcases hm1 with ⟨rfl, ⟨rfl, q⟩ | ⟨rfl, q⟩⟩
  · refine e_if_eq 16 dX3_trace_8 (by decide) (fun h => absurd h (by decide)) (fun c8 => ?_)
    refine e_ldc dX3_trace_11 kkX3_221 ?_
    refine e_goto 22 dX3_trace_13 (by decide) ?_
    exact e_iret dX3_trace_22 rfl (⟨rfl, rfl⟩)
  · have q := Classical.not_not.mp q
    exact False.elim (hb q)

set_option maxHeartbeats 2000000 in
set_option maxRecDepth 20000 in
theorem s_Jtrace (m : jM) (j k : Nat) (hk : k ≤ 16) (hc : m 0 15 = nI k) (hj : j < k) : iX mX3_trace [.ref 0, .int (nI j)] m (fun v m1 => v = m 97 j ∧ m = m1) := by
  refine jX_of (L := [some (.ref 0), some (.int (nI j))]) 0 rfl rfl (by decide +kernel) rfl ?_
  refine e_iload_n dX3_trace_0 rfl ?_
  refine e_aload_n dX3_trace_1 rfl ?_
  refine e_getI dX3_trace_2 lkX3_70 rfl rfl ?_
  rw [show m 0 15 = nI k from hc]
  refine e_callSi (n := 2) mX3_isNot [.int (nI j), .int (nI k)] dX3_trace_5 ckX3_80 rfl (by decide +kernel) rfl rfl (Nat.le_of_ble_eq_true rfl) ⟨Nat.zero_le _, Nat.zero_le _⟩ (s_notN m (nI j) (nI k) k rfl) (fun v5 m1 hm1 => ?_)
  rcases hm1 with ⟨rfl, ⟨rfl, q0⟩ | ⟨rfl, q0⟩⟩
  · exact False.elim (q0 (inN_nI (by omega) hj))
  · have q0 := Classical.not_not.mp q0
    refine e_if_eq 16 dX3_trace_8 (by decide) (fun c8 => ?_) (fun h => absurd h (by decide))
    refine e_aload_n dX3_trace_16 rfl ?_
    refine e_getR (o := 97) (b := 97) dX3_trace_17 lkX3_67 rfl rfl (by decide) rfl ?_
    refine e_iload_n dX3_trace_20 rfl ?_
    refine e_iald dX3_trace_21 rfl j rfl (by omega) (by decide) ?_
    exact e_iret dX3_trace_22 rfl (⟨rfl, rfl⟩)

set_option maxHeartbeats 2000000 in
set_option maxRecDepth 20000 in
theorem s_Jask_b (m : jM) (st : Nat → Int32) (V P : Nat) (hV : V ≤ 3) (hP : P ≤ 5) (hR : RK m 20 st V P) (x w : Int32) (hb : ¬ (inN x P ∧ inN w 2)) : iX mX3_ask [.ref 0, .int x, .int w] m (fun v m1 => v = -1000001 ∧ m = m1) := by
  refine jX_of (L := [some (.ref 0), some (.int x), some (.int w), none]) 1 rfl rfl (by decide +kernel) rfl ?_
  refine e_iload_n dX3_ask_0 rfl ?_
  refine e_aload_n dX3_ask_1 rfl ?_
  refine e_getR (o := 20) (b := 20) dX3_ask_2 lkX3_25 rfl rfl (by decide) rfl ?_
  refine e_getI dX3_ask_5 lkX3_140 rfl rfl ?_
  rw [show m 20 6 = nI P from hR.ps]
  refine e_callSi (n := 2) mX3_isNot [.int x, .int (nI P)] dX3_ask_8 ckX3_80 rfl (by decide +kernel) rfl rfl (Nat.le_of_ble_eq_true rfl) ⟨Nat.zero_le _, Nat.zero_le _⟩ (s_notN m x (nI P) P rfl) (fun v8 m1 hm1 => ?_)
  rcases hm1 with ⟨rfl, ⟨rfl, q⟩ | ⟨rfl, q⟩⟩
  · refine e_if_ne 22 dX3_ask_11 (by decide) (fun c11 => ?_) (fun h => absurd h (by decide))
    refine e_ldc dX3_ask_22 kkX3_84 ?_
    exact e_iret dX3_ask_24 rfl (⟨rfl, rfl⟩)
  · have q := Classical.not_not.mp q
    refine e_if_ne 22 dX3_ask_11 (by decide) (fun h => absurd h (by decide)) (fun c11 => ?_)
    refine e_iload_n dX3_ask_14 rfl ?_
    refine e_iconst (v := 2) dX3_ask_15 rfl ?_
    refine e_callSi (n := 2) mX3_isNot [.int w, .int 2] dX3_ask_16 ckX3_80 rfl (by decide +kernel) rfl rfl (Nat.le_of_ble_eq_true rfl) ⟨Nat.zero_le _, Nat.zero_le _⟩ (s_notN m w 2 2 rfl) (fun v16 m2 hm2 => ?_)
    rcases hm2 with ⟨rfl, ⟨rfl, q2⟩ | ⟨rfl, q2⟩⟩
    · refine e_if_eq 25 dX3_ask_19 (by decide) (fun h => absurd h (by decide)) (fun c19 => ?_)
      refine e_ldc dX3_ask_22 kkX3_84 ?_
      exact e_iret dX3_ask_24 rfl (⟨rfl, rfl⟩)
    · have q2 := Classical.not_not.mp q2
      exact False.elim (hb ⟨q, q2⟩)

set_option maxHeartbeats 2000000 in
set_option maxRecDepth 20000 in
theorem s_Jask (m : jM) (st : Nat → Int32) (V P : Nat) (hV : V ≤ 3) (hP : P ≤ 5) (hR : RK m 20 st V P) (hW : WK st V P) (p : Nat) (hp : p < P) (w : Int32) (hw2 : inN w 2) : iX mX3_ask [.ref 0, .int (nI p), .int w] m (fun v m1 => v = (if w = 0 then sizeV (st (16 + p)) (nI p) (st (26 + p)) (st (36 + p)) else markV (st (16 + p)) (nI p) (st (26 + p)) (st (36 + p))) ∧ bgC (jst m 0 15 0) (if w = 0 then sizeB (st (16 + p)) else markB (st (16 + p))) = m1) := by
  obtain ⟨kn, hkn, ekn⟩ := j_ran (n := 5) (by decide) ⟨Int32.le_trans (by decide) (hW.kd p hp).1, (hW.kd p hp).2⟩
  have k1 : 1 ≤ kn := by have := (hW.kd p hp).1; rw [ekn] at this; exact (j_le (a := 1) (by decide) (by omega)).mp this
  refine jX_of (L := [some (.ref 0), some (.int (nI p)), some (.int w), none]) 1 rfl rfl (by decide +kernel) rfl ?_
  refine e_iload_n dX3_ask_0 rfl ?_
  refine e_aload_n dX3_ask_1 rfl ?_
  refine e_getR (o := 20) (b := 20) dX3_ask_2 lkX3_25 rfl rfl (by decide) rfl ?_
  refine e_getI dX3_ask_5 lkX3_140 rfl rfl ?_
  rw [show m 20 6 = nI P from hR.ps]
  refine e_callSi (n := 2) mX3_isNot [.int (nI p), .int (nI P)] dX3_ask_8 ckX3_80 rfl (by decide +kernel) rfl rfl (Nat.le_of_ble_eq_true rfl) ⟨Nat.zero_le _, Nat.zero_le _⟩ (s_notN m (nI p) (nI P) P rfl) (fun v8 m1 hm1 => ?_)
  rcases hm1 with ⟨rfl, ⟨rfl, q0⟩ | ⟨rfl, q0⟩⟩
  · exact False.elim (q0 (inN_nI (by omega) hp))
  · have q0 := Classical.not_not.mp q0
    refine e_if_ne 22 dX3_ask_11 (by decide) (fun h => absurd h (by decide)) (fun c11 => ?_)
    refine e_iload_n dX3_ask_14 rfl ?_
    refine e_iconst (v := 2) dX3_ask_15 rfl ?_
    refine e_callSi (n := 2) mX3_isNot [.int w, .int 2] dX3_ask_16 ckX3_80 rfl (by decide +kernel) rfl rfl (Nat.le_of_ble_eq_true rfl) ⟨Nat.zero_le _, Nat.zero_le _⟩ (s_notN m w 2 2 rfl) (fun v16 m2 hm2 => ?_)
    rcases hm2 with ⟨rfl, ⟨rfl, q2⟩ | ⟨rfl, q2⟩⟩
    · exact False.elim (q2 hw2)
    · have q2 := Classical.not_not.mp q2
      refine e_if_eq 25 dX3_ask_19 (by decide) (fun c19 => ?_) (fun h => absurd h (by decide))
      refine e_aload_n dX3_ask_25 rfl ?_
      refine e_iconst (v := 0) dX3_ask_26 rfl ?_
      refine e_putI dX3_ask_27 lkX3_70 rfl rfl fwX3_15 (Or.inl rfl) (fun ms hms => ?_)
      refine e_aload_n dX3_ask_30 rfl ?_
      refine e_getR (o := 20) (b := 20) dX3_ask_31 lkX3_25 rfl rfl (by decide) rfl ?_
      refine e_getR (o := 4) (b := 24) dX3_ask_34 lkX3_236 rfl rfl (by decide) rfl ?_
      refine e_iload_n dX3_ask_37 rfl ?_
      refine e_iald dX3_ask_38 rfl p rfl (by omega) (by decide) ?_
      rw [show ms 24 p = nI kn from by rw [hms, jup_n _ _ (by decide), ← ekn]; exact hR.kd p hp]
      refine e_iconst (v := 1) dX3_ask_39 rfl ?_
      refine e_callSi (n := 2) mX3_isOf [.int (nI kn), .int 1] dX3_ask_40 ckX3_239 rfl (by decide +kernel) rfl rfl (Nat.le_of_ble_eq_true rfl) ⟨Nat.zero_le _, Nat.zero_le _⟩ (s_isOf ms kn 1 (by omega) (by decide) k1) (fun v40 m4 hm4 => ?_)
      rcases hm4 with ⟨rfl, ⟨rfl, q⟩ | ⟨rfl, q⟩⟩
      · have p13 : nI kn = 1 ∨ nI kn = 2 ∨ nI kn = 3 := by
          have : kn = 1 ∨ kn = 2 ∨ kn = 3 := kp1 kn (by omega) k1 q
          rcases this with rfl | rfl | rfl
          · exact Or.inl rfl
          · exact Or.inr (Or.inl rfl)
          · exact Or.inr (Or.inr rfl)
        refine e_istore_n (L' := [some (.ref 0), some (.int (nI p)), some (.int w), some (.int 1)]) dX3_ask_43 (Nat.le_of_ble_eq_true rfl) (Nat.le_of_ble_eq_true rfl) (jnl_at (i := 2) rfl) rfl ?_
        refine e_iload_n dX3_ask_44 rfl ?_
        refine e_if_ne 66 dX3_ask_45 (by decide) (fun c45 => ?_) (fun c45 => ?_)
        · refine e_iload_n dX3_ask_66 rfl ?_
          refine e_if_eq 78 dX3_ask_67 (by decide) (fun h => absurd h (by decide)) (fun c67 => ?_)
          refine e_aload_n dX3_ask_70 rfl ?_
          refine e_iload_n dX3_ask_71 rfl ?_
          have ht : trC ms := ⟨0, by decide, by rw [hms, jup_s, upd_s]; rfl⟩
          have e24 : ms 24 = m 24 := by rw [hms, jup_n _ _ (by decide)]
          have e26 : ms 26 = m 26 := by rw [hms, jup_n _ _ (by decide)]
          have e29 : ms 29 = m 29 := by rw [hms, jup_n _ _ (by decide)]
          refine e_callVi (n := 1) mX3_markOfPlums [.int (nI p)] dX3_ask_72 ckX3_248 rfl (by decide +kernel) rfl rfl rfl rfl (Nat.le_of_ble_eq_true rfl) ⟨Nat.zero_le _, Nat.zero_le _⟩ (s_CmarkOfPlums ms p (by omega) ht (by rw [e24, hR.kd p hp, ekn]; exact p13)) (fun v72 mz hmz => ?_)
          obtain ⟨ev, em⟩ := hmz
          rw [e24, hR.kd p hp, e26, hR.nd p hp, e29, hR.tk p hp] at ev
          rw [e24, hR.kd p hp, hms] at em
          refine e_goto 83 dX3_ask_75 (by decide) ?_
          exact e_iret dX3_ask_83 rfl (⟨by rw [if_neg c45]; exact ev, by rw [if_neg c45]; exact em⟩)
        · refine e_iload_n dX3_ask_48 rfl ?_
          refine e_if_eq 60 dX3_ask_49 (by decide) (fun h => absurd h (by decide)) (fun c49 => ?_)
          refine e_aload_n dX3_ask_52 rfl ?_
          refine e_iload_n dX3_ask_53 rfl ?_
          have ht : trC ms := ⟨0, by decide, by rw [hms, jup_s, upd_s]; rfl⟩
          have e24 : ms 24 = m 24 := by rw [hms, jup_n _ _ (by decide)]
          have e26 : ms 26 = m 26 := by rw [hms, jup_n _ _ (by decide)]
          have e29 : ms 29 = m 29 := by rw [hms, jup_n _ _ (by decide)]
          refine e_callVi (n := 1) mX3_sizeOfPlums [.int (nI p)] dX3_ask_54 ckX3_242 rfl (by decide +kernel) rfl rfl rfl rfl (Nat.le_of_ble_eq_true rfl) ⟨Nat.zero_le _, Nat.zero_le _⟩ (s_CsizeOfPlums ms p (by omega) ht (by rw [e24, hR.kd p hp, ekn]; exact p13)) (fun v54 mz hmz => ?_)
          obtain ⟨ev, em⟩ := hmz
          rw [e24, hR.kd p hp, e26, hR.nd p hp, e29, hR.tk p hp] at ev
          rw [e24, hR.kd p hp, hms] at em
          refine e_goto 65 dX3_ask_57 (by decide) ?_
          exact e_iret dX3_ask_65 rfl (by rw [ekn] at ev em ⊢; first | exact ⟨by rw [if_pos (by first | exact c45 | exact Classical.byContradiction c45)]; exact ev, by rw [if_pos (by first | exact c45 | exact Classical.byContradiction c45)]; exact em⟩ | exact ⟨by rw [if_pos (by first | exact c45 | exact Classical.byContradiction c45), siz_mar p45]; exact ev, by rw [if_pos (by first | exact c45 | exact Classical.byContradiction c45), siz_marB p45]; exact em⟩)
      · have p45 : nI kn = 4 ∨ nI kn = 5 := by
          have : kn = 4 ∨ kn = 5 := kp4 kn (by omega) k1 q
          rcases this with rfl | rfl
          · exact Or.inl rfl
          · exact Or.inr rfl
        refine e_istore_n (L' := [some (.ref 0), some (.int (nI p)), some (.int w), some (.int 0)]) dX3_ask_43 (Nat.le_of_ble_eq_true rfl) (Nat.le_of_ble_eq_true rfl) (jnl_at (i := 2) rfl) rfl ?_
        refine e_iload_n dX3_ask_44 rfl ?_
        refine e_if_ne 66 dX3_ask_45 (by decide) (fun c45 => ?_) (fun c45 => ?_)
        · refine e_iload_n dX3_ask_66 rfl ?_
          refine e_if_eq 78 dX3_ask_67 (by decide) (fun c67 => ?_) (fun h => absurd h (by decide))
          refine e_aload_n dX3_ask_78 rfl ?_
          refine e_iload_n dX3_ask_79 rfl ?_
          have ht : trC ms := ⟨0, by decide, by rw [hms, jup_s, upd_s]; rfl⟩
          have e24 : ms 24 = m 24 := by rw [hms, jup_n _ _ (by decide)]
          have e26 : ms 26 = m 26 := by rw [hms, jup_n _ _ (by decide)]
          have e29 : ms 29 = m 29 := by rw [hms, jup_n _ _ (by decide)]
          refine e_callVi (n := 1) mX3_markOfMarrows [.int (nI p)] dX3_ask_80 ckX3_251 rfl (by decide +kernel) rfl rfl rfl rfl (Nat.le_of_ble_eq_true rfl) ⟨Nat.zero_le _, Nat.zero_le _⟩ (s_CmarkOfMarrows ms p (by omega) ht (by rw [e24, hR.kd p hp, ekn]; exact p45)) (fun v80 mz hmz => ?_)
          obtain ⟨ev, em⟩ := hmz
          rw [e24, hR.kd p hp, e26, hR.nd p hp, e29, hR.tk p hp] at ev
          rw [e24, hR.kd p hp, hms] at em
          exact e_iret dX3_ask_83 rfl (⟨by rw [if_neg c45]; exact ev, by rw [if_neg c45]; exact em⟩)
        · refine e_iload_n dX3_ask_48 rfl ?_
          refine e_if_eq 60 dX3_ask_49 (by decide) (fun c49 => ?_) (fun h => absurd h (by decide))
          refine e_aload_n dX3_ask_60 rfl ?_
          refine e_iload_n dX3_ask_61 rfl ?_
          have ht : trC ms := ⟨0, by decide, by rw [hms, jup_s, upd_s]; rfl⟩
          have e24 : ms 24 = m 24 := by rw [hms, jup_n _ _ (by decide)]
          have e26 : ms 26 = m 26 := by rw [hms, jup_n _ _ (by decide)]
          have e29 : ms 29 = m 29 := by rw [hms, jup_n _ _ (by decide)]
          refine e_callVi (n := 1) mX3_sizeOfMarrows [.int (nI p)] dX3_ask_62 ckX3_245 rfl (by decide +kernel) rfl rfl rfl rfl (Nat.le_of_ble_eq_true rfl) ⟨Nat.zero_le _, Nat.zero_le _⟩ (s_CsizeOfMarrows ms p (by omega) ht) (fun v62 mz hmz => ?_)
          obtain ⟨ev, em⟩ := hmz
          rw [e24, hR.kd p hp, e26, hR.nd p hp] at ev
          rw [e24, hR.kd p hp, hms] at em
          exact e_iret dX3_ask_65 rfl (by rw [ekn] at ev em ⊢; first | exact ⟨by rw [if_pos (by first | exact c45 | exact Classical.byContradiction c45)]; exact ev, by rw [if_pos (by first | exact c45 | exact Classical.byContradiction c45)]; exact em⟩ | exact ⟨by rw [if_pos (by first | exact c45 | exact Classical.byContradiction c45), siz_mar p45]; exact ev, by rw [if_pos (by first | exact c45 | exact Classical.byContradiction c45), siz_marB p45]; exact em⟩)

set_option maxHeartbeats 2000000 in
set_option maxRecDepth 20000 in
theorem s_CrowsThere (m : jM) (hrw : ∀ r, r < 8 → RW m r) : iX mX3_rowsThere [.ref 0] m (fun v m1 => v = nI (rowsN (m 100) 8) ∧ m = m1) := by
  refine jX_of (L := [some (.ref 0), none, none]) 2 rfl rfl (by decide +kernel) rfl ?_
  refine e_iconst (v := 0) dX3_rowsThere_0 rfl ?_
  refine e_istore_n (L' := [some (.ref 0), some (.int 0), none]) dX3_rowsThere_1 (Nat.le_of_ble_eq_true rfl) (Nat.le_of_ble_eq_true rfl) (jnl_at (i := 0) rfl) rfl ?_
  refine e_iconst (v := 0) dX3_rowsThere_2 rfl ?_
  refine e_istore_n (L' := [some (.ref 0), some (.int 0), some (.int 0)]) dX3_rowsThere_3 (Nat.le_of_ble_eq_true rfl) (Nat.le_of_ble_eq_true rfl) (jnl_at (i := 1) rfl) rfl ?_
  refine e_loop 4 8 (fun k => [some (.ref 0), some (.int (nI (rowsN (m 100) k))), some (.int (nI k))]) (fun k => m) 0 (Nat.zero_le _) rfl (rfl) ?_ ?_
  · show jE _ _ 4 [some (.ref 0), some (.int (nI (rowsN (m 100) 8))), some (.int (nI 8))] [] m
    refine e_iload_n dX3_rowsThere_4 rfl ?_
    refine e_bipush (v := 8) dX3_rowsThere_5 rfl ?_
    refine e_icmp_ge 36 dX3_rowsThere_7 (by decide) (fun c7 => ?_) (fun h => absurd (j_done rfl rfl) h)
    refine e_iload_n dX3_rowsThere_36 rfl ?_
    exact e_iret dX3_rowsThere_37 rfl (⟨rfl, rfl⟩)
  · intro k hk ih
    show jE _ _ 4 [some (.ref 0), some (.int (nI (rowsN (m 100) k))), some (.int (nI k))] [] m
    refine e_iload_n dX3_rowsThere_4 rfl ?_
    refine e_bipush (v := 8) dX3_rowsThere_5 rfl ?_
    refine e_icmp_ge 36 dX3_rowsThere_7 (by decide) (fun h => absurd h (j_more (N := 8) rfl rfl (by omega) (by omega))) (fun c7 => ?_)
    refine e_iload_n dX3_rowsThere_10 rfl ?_
    refine e_aload_n dX3_rowsThere_11 rfl ?_
    refine e_getR (o := 1) (b := 1) dX3_rowsThere_12 lkX3_11 rfl rfl (by decide) rfl ?_
    refine e_iload_n dX3_rowsThere_15 rfl ?_
    refine e_aald (b := 2 + 2 * k) dX3_rowsThere_16 rfl (by decide) k rfl (by omega) (by decide) rfl ?_
    refine e_getI dX3_rowsThere_17 lkX3_96 (isR_l k (by omega)) rfl ?_
    refine e_if_eq 27 dX3_rowsThere_20 (by decide) (fun c20 => ?_) (fun c20 => ?_)
    · refine e_iconst (v := 0) dX3_rowsThere_27 rfl ?_
      refine e_iadd dX3_rowsThere_28 ?_
      rw [show (nI (rowsN (m 100) k)) + 0 = nI ((rowsN (m 100) k) + 0) from (j_add rfl rfl)]
      refine e_istore_n (L' := [some (.ref 0), some (.int (nI ((rowsN (m 100) k) + 0))), some (.int (nI k))]) dX3_rowsThere_29 (Nat.le_of_ble_eq_true rfl) (Nat.le_of_ble_eq_true rfl) (jnl_at (i := 0) rfl) rfl ?_
      refine e_iinc (v := nI (k + 1)) (L' := [some (.ref 0), some (.int (nI ((rowsN (m 100) k) + 0))), some (.int (nI (k + 1)))]) dX3_rowsThere_30 rfl (j_inc rfl) (by decide) (jnl_at (i := 1) rfl) rfl ?_
      refine e_goto 4 dX3_rowsThere_33 (by decide) ?_
      have eR : rowsN (m 100) (k + 1) = (rowsN (m 100) k) + 0 := rows_st (hrw k hk) (by first | exact Or.inl ⟨c20, rfl⟩ | exact Or.inr ⟨c20, rfl⟩)
      refine e_start (by simp only [eR]) rfl ih
    · refine e_iconst (v := 1) dX3_rowsThere_23 rfl ?_
      refine e_goto 28 dX3_rowsThere_24 (by decide) ?_
      refine e_iadd dX3_rowsThere_28 ?_
      rw [show (nI (rowsN (m 100) k)) + 1 = nI ((rowsN (m 100) k) + 1) from (j_add rfl rfl)]
      refine e_istore_n (L' := [some (.ref 0), some (.int (nI ((rowsN (m 100) k) + 1))), some (.int (nI k))]) dX3_rowsThere_29 (Nat.le_of_ble_eq_true rfl) (Nat.le_of_ble_eq_true rfl) (jnl_at (i := 0) rfl) rfl ?_
      refine e_iinc (v := nI (k + 1)) (L' := [some (.ref 0), some (.int (nI ((rowsN (m 100) k) + 1))), some (.int (nI (k + 1)))]) dX3_rowsThere_30 rfl (j_inc rfl) (by decide) (jnl_at (i := 1) rfl) rfl ?_
      refine e_goto 4 dX3_rowsThere_33 (by decide) ?_
      have eR : rowsN (m 100) (k + 1) = (rowsN (m 100) k) + 1 := rows_st (hrw k hk) (by first | exact Or.inl ⟨c20, rfl⟩ | exact Or.inr ⟨c20, rfl⟩)
      refine e_start (by simp only [eR]) rfl ih

set_option maxHeartbeats 2000000 in
set_option maxRecDepth 20000 in
theorem s_Jcount (m : jM) (V P : Nat) (hP : P ≤ 5) (hR : RK m 20 (m 102) V P) (hdn : ∀ p, p < P → m 102 (41 + p) = if m 102 (26 + p) ≤ m 102 (36 + p) then 1 else 0) (e1 : m 102 1 = nI V) (e2 : m 102 2 = nI P) (hk : m 0 6 = m 98 18) (ht : m 18 1 = m 98 8) (hrw : ∀ r, r < 8 → RW m r) (w : Int32) : iX mX3_count [.ref 0, .int w] m (fun v m1 => v = cntV m P w ∧ m = m1) := by
  refine jX_of (L := [some (.ref 0), some (.int w)]) 0 rfl rfl (by decide +kernel) rfl ?_
  refine e_iload_n dX3_count_0 rfl ?_
  by_cases z1_0 : w = 0
  · subst z1_0
    refine e_tsIn 48 dX3_count_1 (by decide) (by decide) rfl (by decide) ?_
    refine e_aload_n dX3_count_48 rfl ?_
    refine e_callVi (n := 0) mX3_rowsThere [] dX3_count_49 ckX3_254 rfl (by decide +kernel) rfl rfl rfl rfl (Nat.le_of_ble_eq_true rfl) ⟨Nat.zero_le _, Nat.zero_le _⟩ (s_CrowsThere m hrw) (fun v49 m1 hm1 => ?_)
    obtain ⟨rfl, rfl⟩ := hm1
    exact e_iret dX3_count_52 rfl (⟨by unfold cntV; simp_all, rfl⟩)
  by_cases z1_1 : w = 1
  · subst z1_1
    refine e_tsIn 53 dX3_count_1 (by decide) (by decide) rfl (by decide) ?_
    refine e_aload_n dX3_count_53 rfl ?_
    refine e_getR (o := 20) (b := 20) dX3_count_54 lkX3_25 rfl rfl (by decide) rfl ?_
    refine e_getI dX3_count_57 lkX3_147 rfl rfl ?_
    rw [show m 20 2 = m 102 1 from by rw [hR.vs, e1]]
    exact e_iret dX3_count_60 rfl (⟨by unfold cntV; simp_all, rfl⟩)
  by_cases z1_2 : w = 2
  · subst z1_2
    refine e_tsIn 61 dX3_count_1 (by decide) (by decide) rfl (by decide) ?_
    refine e_aload_n dX3_count_61 rfl ?_
    refine e_getR (o := 20) (b := 20) dX3_count_62 lkX3_25 rfl rfl (by decide) rfl ?_
    refine e_getI dX3_count_65 lkX3_140 rfl rfl ?_
    rw [show m 20 6 = m 102 2 from by rw [hR.ps, e2]]
    exact e_iret dX3_count_68 rfl (⟨by unfold cntV; simp_all, rfl⟩)
  by_cases z1_3 : w = 3
  · subst z1_3
    refine e_tsIn 69 dX3_count_1 (by decide) (by decide) rfl (by decide) ?_
    refine e_aload_n dX3_count_69 rfl ?_
    refine e_getR (o := 20) (b := 20) dX3_count_70 lkX3_25 rfl rfl (by decide) rfl ?_
    refine e_getI dX3_count_73 lkX3_257 rfl rfl ?_
    rw [show m 20 10 = m 102 3 from hR.br]
    exact e_iret dX3_count_76 rfl (⟨by unfold cntV; simp_all, rfl⟩)
  by_cases z1_4 : w = 4
  · subst z1_4
    refine e_tsIn 77 dX3_count_1 (by decide) (by decide) rfl (by decide) ?_
    refine e_aload_n dX3_count_77 rfl ?_
    refine e_getR (o := 20) (b := 20) dX3_count_78 lkX3_25 rfl rfl (by decide) rfl ?_
    refine e_getI dX3_count_81 lkX3_260 rfl rfl ?_
    rw [show m 20 1 = m 102 0 from hR.bk]
    exact e_iret dX3_count_84 rfl (⟨by unfold cntV; simp_all, rfl⟩)
  by_cases z1_5 : w = 5
  · subst z1_5
    refine e_tsIn 85 dX3_count_1 (by decide) (by decide) rfl (by decide) ?_
    refine e_aload_n dX3_count_85 rfl ?_
    refine e_getR (o := 20) (b := 20) dX3_count_86 lkX3_25 rfl rfl (by decide) rfl ?_
    refine e_callVi (n := 0) mX0_setPans [] dX3_count_89 ckX3_160 rfl (by decide +kernel) rfl rfl rfl rfl (Nat.le_of_ble_eq_true rfl) ⟨Nat.zero_le _, Nat.zero_le _⟩ (s_CsetPansD 20 k20 m (m 102) V P hP hdn hR) (fun v89 m2 hm2 => ?_)
    obtain ⟨rfl, rfl⟩ := hm2
    exact e_iret dX3_count_92 rfl (⟨by unfold cntV; simp_all, rfl⟩)
  by_cases z1_6 : w = 6
  · subst z1_6
    refine e_tsIn 93 dX3_count_1 (by decide) (by decide) rfl (by decide) ?_
    refine e_aload_n dX3_count_93 rfl ?_
    refine e_getI dX3_count_94 lkX3_41 rfl rfl ?_
    rw [show m 0 6 = m 98 18 from hk]
    exact e_iret dX3_count_97 rfl (⟨by unfold cntV; simp_all, rfl⟩)
  by_cases z1_7 : w = 7
  · subst z1_7
    refine e_tsIn 98 dX3_count_1 (by decide) (by decide) rfl (by decide) ?_
    refine e_aload_n dX3_count_98 rfl ?_
    refine e_getR (o := 18) (b := 18) dX3_count_99 lkX3_18 rfl rfl (by decide) rfl ?_
    refine e_getI dX3_count_102 lkX3_121 rfl rfl ?_
    rw [show m 18 1 = m 98 8 from ht]
    exact e_iret dX3_count_105 rfl (⟨by unfold cntV; simp_all, rfl⟩)
  refine e_tsOut 106 dX3_count_1 (j_out8 z1_0 z1_1 z1_2 z1_3 z1_4 z1_5 z1_6 z1_7) (by decide) ?_
  refine e_ldc dX3_count_106 kkX3_84 ?_
  exact e_iret dX3_count_108 rfl (⟨by unfold cntV; simp_all, rfl⟩)
