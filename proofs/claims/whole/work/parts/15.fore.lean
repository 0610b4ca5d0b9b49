/-! ===== what is foretold, over the reference's row ===== -/
theorem upd_congr {f g : Nat → Int32} {k : Nat} {x y : Int32} (h : f = g) (e : x = y) : upd f k x = upd g k y := by rw [h, e]
theorem lsB_congr {st f g : Nat → Int32} {p : Nat} : ∀ k, (∀ j, j < k → f j = g j) → lsB st f p k = lsB st g p k
  | 0, _ => rfl
  | k + 1, h => by
    have ih := lsB_congr (st := st) (p := p) k (fun j hj => h j (by omega))
    unfold lsB
    rw [ih, h k (by omega)]
theorem rtB_congr {st f g : Nat → Int32} {p : Nat} : ∀ k, (∀ j, j < k → f j = g j) → rtB st f p k = rtB st g p k
  | 0, _ => rfl
  | k + 1, h => by
    have ih := rtB_congr (st := st) (p := p) k (fun j hj => h j (by omega))
    unfold rtB
    rw [ih, h k (by omega)]
theorem panB_congr {st f g : Nat → Int32} {V p : Nat} (h : ∀ j, j < V → f j = g j) : panB st f V p = panB st g V p := by
  unfold panB hearB
  rw [lsB_congr V h, rtB_congr V h]
theorem pansB_congr {st f g : Nat → Int32} {V : Nat} (h : ∀ j, j < V → f j = g j) : ∀ k, pansB st f V k = pansB st g V k
  | 0 => rfl
  | k + 1 => by
    show panB _ _ _ _ = panB _ _ _ _
    rw [pansB_congr h k, panB_congr h]
theorem runsB_congr {st f g : Nat → Int32} : ∀ k, (∀ j, j < k → f j = g j) → runsB st f k = runsB st g k
  | 0, _ => rfl
  | k + 1, h => by
    show runB _ _ _ = runB _ _ _
    unfold runB
    rw [runsB_congr k (fun j hj => h j (by omega)), h k (by omega)]
theorem oneB_congr {st f g : Nat → Int32} {V P : Nat} (h : ∀ j, j < V → f j = g j) : oneB st f V P = oneB st g V P := by
  unfold oneB
  rw [pansB_congr h, runsB_congr V h]
/-- the voices, bar, less, who they are: what a bar doesn't change -/
theorem oneB_lo {st nt : Nat → Int32} {V P i : Nat} (hV : V ≤ 3) (h : i < 13 ∨ (16 ≤ i ∧ i < 36)) (h3 : i ≠ 3) : oneB st nt V P i = st i := by
  unfold oneB barB
  rw [upd_n _ _ h3, runsB_lo (by omega) V hV, pansB_lo (by omega)]
def canB (st : Nat → Int32) (k : Nat) (x : Int32) : Bool := decide (x = 7) || (decide (st (4 + k) ≤ x ∧ x ≤ st (7 + k)) && decide (st (13 + k) < st (10 + k)))
theorem canB_iff {st : Nat → Int32} {k : Nat} {x : Int32} : canP st k x ↔ canB st k x = true := by
  unfold canP canB
  simp
theorem s_canB (k : Nat) (hk : k < 3) (x : Int32) (m : jM) : iX mX4_canSing [.ref 98, .int (nI k), .int x] m (fun v m1 => m = m1 ∧ isB v (canB (m 102) k x = true)) := by
  have h := s_canSing k hk x m
  rw [canB_iff] at h
  exact h
def ntS (s : Nat) (x : Int32) : Nat → Int32 := fun j => if j = s then x else 7
/-- a tune by one, k bars of it; c: in which it coughs -/
def aloneB (st : Nat → Int32) (s : Nat) (tn : Nat → Int32) (c : Int32) (V P : Nat) : Nat → Nat → Int32
  | 0 => st
  | k + 1 => oneB (aloneB st s tn c V P k) (ntS s (if btI c (nI k) = true ∨ ¬ canB (aloneB st s tn c V P k) s (tn k) = true then 7 else tn k)) V P
theorem aloneB_lo {st : Nat → Int32} {s : Nat} {tn : Nat → Int32} {c : Int32} {V P i : Nat} (hV : V ≤ 3) (h : i < 13 ∨ (16 ≤ i ∧ i < 36)) (h3 : i ≠ 3) : ∀ k, aloneB st s tn c V P k i = st i
  | 0 => rfl
  | k + 1 => (oneB_lo hV h h3).trans (aloneB_lo hV h h3 k)
def ntR (st : Nat → Int32) (tn : Nat → Int32) (d n k V : Nat) : Nat → Int32 := fun s => if s < V then (if canB st s (if s * d ≤ k ∧ k - s * d < n then tn (k - s * d) else 7) = true then (if s * d ≤ k ∧ k - s * d < n then tn (k - s * d) else 7) else 7) else 7
/-- a tune as a round, d bars apart, k bars of it -/
def roundB (st : Nat → Int32) (tn : Nat → Int32) (d n V P : Nat) : Nat → Nat → Int32
  | 0 => st
  | k + 1 => oneB (roundB st tn d n V P k) (ntR (roundB st tn d n V P k) tn d n k V) V P
theorem roundB_lo {st : Nat → Int32} {tn : Nat → Int32} {d n V P i : Nat} (hV : V ≤ 3) (h : i < 13 ∨ (16 ≤ i ∧ i < 36)) (h3 : i ≠ 3) : ∀ k, roundB st tn d n V P k i = st i
  | 0 => rfl
  | k + 1 => (oneB_lo hV h h3).trans (roundB_lo hV h h3 k)
def rlen (d n V : Nat) : Nat := n + (if V = 0 then 0 else d * (V - 1))
/-- whether the first items of a tune are notes or rests -/
def goodB (items : Nat → Int32) (o : Nat) : Nat → Bool
  | 0 => true
  | k + 1 => goodB items o k && decide (0 ≤ items (o + k) ∧ items (o + k) < nI 8)
theorem rest3_hi (f : Nat → Int32) {j : Nat} (h : j < 3) : va_cpy (fun _ => 7) f 0 0 3 j = 7 := by
  unfold va_cpy
  rw [if_pos (by omega)]
theorem inN_sub {a b n : Nat} (ha : a < 2 ^ 30) (hb : b < 2 ^ 30) (hn : n < 2 ^ 31) : inN (nI a - nI b) n ↔ (b ≤ a ∧ a - b < n) := by
  unfold inN
  rw [Int32.le_iff_toInt_le, Int32.lt_iff_toInt_lt, pk_sub_toInt ha hb, nI_toInt hn]
  have : (0 : Int32).toInt = 0 := rfl
  rw [this]
  omega
set_option maxHeartbeats 2000000 in
set_option maxRecDepth 20000 in
theorem s_lacks_n (m : jM) (r : Nat) (hr : r < 8) (n : Nat) (hn : n ≤ 16) (i : Int32) (h0 : m 100 r = -1) : iX mX4_lacks [.ref 98, .int (nI r), .int i, .int (nI n)] m (fun v m1 => v = (-1000010) - 1 ∧ jst m 98 3 1 = m1) := by
  refine jX_of (L := [some (.ref 98), some (.int (nI r)), some (.int i), some (.int (nI n)), none, none]) 2 rfl rfl (by decide +kernel) rfl ?_
  refine e_aload_n dX4_lacks_0 rfl ?_
  refine e_getR (o := 2) (b := 100) dX4_lacks_1 lkX4_13 rfl rfl (by decide) rfl ?_
  refine e_iload_n dX4_lacks_4 rfl ?_
  refine e_iald dX4_lacks_5 rfl r rfl (by omega) (by decide) ?_
  rw [show m 100 r = (-1) from h0]
  refine e_if_ge 15 dX4_lacks_6 (by decide) (fun h => absurd h (by decide)) (fun c6 => ?_)
  refine e_aload_n dX4_lacks_9 rfl ?_
  refine e_iconst (v := 1) dX4_lacks_10 rfl ?_
  refine e_callVi (n := 1) mX4_find [.int 1] dX4_lacks_11 ckX4_71 rfl (by decide +kernel) rfl rfl rfl rfl (Nat.le_of_ble_eq_true rfl) ⟨Nat.zero_le _, Nat.zero_le _⟩ (s_find 1 m) (fun v11 mw hmw => ?_)
  obtain ⟨rfl, hw⟩ := hmw
  exact e_iret dX4_lacks_14 rfl (⟨rfl, hw⟩)

set_option maxHeartbeats 2000000 in
set_option maxRecDepth 20000 in
theorem s_lacks_p (m : jM) (r : Nat) (hr : r < 8) (n : Nat) (hn : n ≤ 16) (i : Int32) (k : Nat) (hk : k ≤ 40) (h0 : m 100 r = nI k) (hb : ¬ (0 ≤ i ∧ i ≤ nI k - nI n)) : iX mX4_lacks [.ref 98, .int (nI r), .int i, .int (nI n)] m (fun v m1 => v = (-1000010) - 2 ∧ jst m 98 3 2 = m1) := by
  refine jX_of (L := [some (.ref 98), some (.int (nI r)), some (.int i), some (.int (nI n)), none, none]) 2 rfl rfl (by decide +kernel) rfl ?_
  refine e_aload_n dX4_lacks_0 rfl ?_
  refine e_getR (o := 2) (b := 100) dX4_lacks_1 lkX4_13 rfl rfl (by decide) rfl ?_
  refine e_iload_n dX4_lacks_4 rfl ?_
  refine e_iald dX4_lacks_5 rfl r rfl (by omega) (by decide) ?_
  rw [show m 100 r = nI k from h0]
  refine e_if_ge 15 dX4_lacks_6 (by decide) (fun c6 => ?_) (fun h => absurd (nI_pos' (by omega)) h)
  refine e_iload_n dX4_lacks_15 rfl ?_
  refine e_i2l dX4_lacks_16 ?_
  refine e_lconst (v := 0) dX4_lacks_17 rfl ?_
  refine e_aload_n dX4_lacks_18 rfl ?_
  refine e_getR (o := 2) (b := 100) dX4_lacks_19 lkX4_13 rfl rfl (by decide) rfl ?_
  refine e_iload_n dX4_lacks_22 rfl ?_
  refine e_iald dX4_lacks_23 rfl r rfl (by omega) (by decide) ?_
  rw [show m 100 r = nI k from h0]
  refine e_iload_n dX4_lacks_24 rfl ?_
  refine e_isub dX4_lacks_25 ?_
  refine e_i2l dX4_lacks_26 ?_
  refine e_callSi (n := 3) mX4_in [.long (Int32.toInt64 i), .long 0, .long (Int32.toInt64 ((nI k) - (nI n)))] dX4_lacks_27 ckX4_60 rfl (by decide +kernel) rfl rfl (Nat.le_of_ble_eq_true rfl) ⟨Nat.zero_le _, Nat.zero_le _⟩ (s_in32 i 0 (nI k - nI n) m) (fun v27 m1 hm1 => ?_)
  rcases hm1 with ⟨rfl, ⟨rfl, q⟩ | ⟨rfl, q⟩⟩
  · exact False.elim (hb q)
  · refine e_if_ne 39 dX4_lacks_30 (by decide) (fun h => absurd h (by decide)) (fun c30 => ?_)
    refine e_aload_n dX4_lacks_33 rfl ?_
    refine e_iconst (v := 2) dX4_lacks_34 rfl ?_
    refine e_callVi (n := 1) mX4_find [.int 2] dX4_lacks_35 ckX4_71 rfl (by decide +kernel) rfl rfl rfl rfl (Nat.le_of_ble_eq_true rfl) ⟨Nat.zero_le _, Nat.zero_le _⟩ (s_find 2 m) (fun v35 mw hmw => ?_)
    obtain ⟨rfl, hw⟩ := hmw
    exact e_iret dX4_lacks_38 rfl (⟨rfl, hw⟩)

set_option maxHeartbeats 2000000 in
set_option maxRecDepth 20000 in
theorem s_lacks (m : jM) (r : Nat) (hr : r < 8) (n : Nat) (hn : n ≤ 16) (i : Nat) (k : Nat) (hk : k ≤ 40) (h0 : m 100 r = nI k) (hb : i + n ≤ k) : iX mX4_lacks [.ref 98, .int (nI r), .int (nI i), .int (nI n)] m (fun v m1 => v = (if goodB (m 101) (40 * r + i) n = true then 0 else -1000001) ∧ m = m1) := by
  have hin : 0 ≤ nI i ∧ nI i ≤ nI k - nI n := ⟨nI_pos' (by omega), by rw [pk_sub (by omega)]; exact (j_le (by omega) (by omega)).mpr (by omega)⟩
  refine jX_of (L := [some (.ref 98), some (.int (nI r)), some (.int (nI i)), some (.int (nI n)), none, none]) 2 rfl rfl (by decide +kernel) rfl ?_
  refine e_aload_n dX4_lacks_0 rfl ?_
  refine e_getR (o := 2) (b := 100) dX4_lacks_1 lkX4_13 rfl rfl (by decide) rfl ?_
  refine e_iload_n dX4_lacks_4 rfl ?_
  refine e_iald dX4_lacks_5 rfl r rfl (by omega) (by decide) ?_
  rw [show m 100 r = nI k from h0]
  refine e_if_ge 15 dX4_lacks_6 (by decide) (fun c6 => ?_) (fun h => absurd (nI_pos' (by omega)) h)
  refine e_iload_n dX4_lacks_15 rfl ?_
  refine e_i2l dX4_lacks_16 ?_
  refine e_lconst (v := 0) dX4_lacks_17 rfl ?_
  refine e_aload_n dX4_lacks_18 rfl ?_
  refine e_getR (o := 2) (b := 100) dX4_lacks_19 lkX4_13 rfl rfl (by decide) rfl ?_
  refine e_iload_n dX4_lacks_22 rfl ?_
  refine e_iald dX4_lacks_23 rfl r rfl (by omega) (by decide) ?_
  rw [show m 100 r = nI k from h0]
  refine e_iload_n dX4_lacks_24 rfl ?_
  refine e_isub dX4_lacks_25 ?_
  refine e_i2l dX4_lacks_26 ?_
  refine e_callSi (n := 3) mX4_in [.long (Int32.toInt64 (nI i)), .long 0, .long (Int32.toInt64 ((nI k) - (nI n)))] dX4_lacks_27 ckX4_60 rfl (by decide +kernel) rfl rfl (Nat.le_of_ble_eq_true rfl) ⟨Nat.zero_le _, Nat.zero_le _⟩ (s_in32 (nI i) 0 (nI k - nI n) m) (fun v27 m1 hm1 => ?_)
  rcases hm1 with ⟨rfl, ⟨rfl, q⟩ | ⟨rfl, q⟩⟩
  · refine e_if_ne 39 dX4_lacks_30 (by decide) (fun c30 => ?_) (fun h => absurd h (by decide))
    refine e_iconst (v := 1) dX4_lacks_39 rfl ?_
    refine e_istore (L' := [some (.ref 98), some (.int (nI r)), some (.int (nI i)), some (.int (nI n)), some (.int 1), none]) dX4_lacks_40 (Nat.le_of_ble_eq_true rfl) (Nat.le_of_ble_eq_true rfl) (jnl_at (i := 3) rfl) rfl ?_
    refine e_iconst (v := 0) dX4_lacks_42 rfl ?_
    refine e_istore (L' := [some (.ref 98), some (.int (nI r)), some (.int (nI i)), some (.int (nI n)), some (.int 1), some (.int 0)]) dX4_lacks_43 (Nat.le_of_ble_eq_true rfl) (Nat.le_of_ble_eq_true rfl) (jnl_at (i := 4) rfl) rfl ?_
    refine e_loop 45 n (fun u => [some (.ref 98), some (.int (nI r)), some (.int (nI i)), some (.int (nI n)), some (.int (b01 (goodB (m 101) (40 * r + i) u))), some (.int (nI u))]) (fun u => m) 0 (Nat.zero_le _) rfl (rfl) ?_ ?_
    · show jE _ _ 45 [some (.ref 98), some (.int (nI r)), some (.int (nI i)), some (.int (nI n)), some (.int (b01 (goodB (m 101) (40 * r + i) n))), some (.int (nI n))] [] m
      refine e_iload dX4_lacks_45 rfl ?_
      refine e_iload_n dX4_lacks_47 rfl ?_
      refine e_icmp_ge 94 dX4_lacks_48 (by decide) (fun c48 => ?_) (fun h => absurd (j_done rfl rfl) h)
      refine e_iload dX4_lacks_94 rfl ?_
      refine e_if_eq 103 dX4_lacks_96 (by decide) (fun c96 => ?_) (fun c96 => ?_)
      · refine e_ldc dX4_lacks_103 kkX4_70 ?_
        exact e_iret dX4_lacks_105 rfl (⟨by simp_all [b01], rfl⟩)
      · refine e_iconst (v := 0) dX4_lacks_99 rfl ?_
        refine e_goto 105 dX4_lacks_100 (by decide) ?_
        exact e_iret dX4_lacks_105 rfl (⟨by simp_all [b01], rfl⟩)
    · intro u hk ih
      show jE _ _ 45 [some (.ref 98), some (.int (nI r)), some (.int (nI i)), some (.int (nI n)), some (.int (b01 (goodB (m 101) (40 * r + i) u))), some (.int (nI u))] [] m
      refine e_iload dX4_lacks_45 rfl ?_
      refine e_iload_n dX4_lacks_47 rfl ?_
      refine e_icmp_ge 94 dX4_lacks_48 (by decide) (fun h => absurd h (j_more (N := n) rfl rfl (by omega) (by omega))) (fun c48 => ?_)
      refine e_iload dX4_lacks_51 rfl ?_
      refine e_if_eq 85 dX4_lacks_53 (by decide) (fun c53 => ?_) (fun c53 => ?_)
      · refine e_iconst (v := 0) dX4_lacks_85 rfl ?_
        refine e_istore (L' := [some (.ref 98), some (.int (nI r)), some (.int (nI i)), some (.int (nI n)), some (.int 0), some (.int (nI u))]) dX4_lacks_86 (Nat.le_of_ble_eq_true rfl) (Nat.le_of_ble_eq_true rfl) (jnl_at (i := 3) rfl) rfl ?_
        refine e_iinc (v := nI (u + 1)) (L' := [some (.ref 98), some (.int (nI r)), some (.int (nI i)), some (.int (nI n)), some (.int 0), some (.int (nI (u + 1)))]) dX4_lacks_88 rfl (j_inc rfl) (by decide) (jnl_at (i := 4) rfl) rfl ?_
        refine e_goto 45 dX4_lacks_91 (by decide) ?_
        refine e_start ?_ rfl ih
        simp_all [goodB, b01, inN, Nat.add_assoc, j_ltn, -Int32.not_le, -Int32.not_lt]
      · refine e_aload_n dX4_lacks_56 rfl ?_
        refine e_getR (o := 3) (b := 101) dX4_lacks_57 lkX4_16 rfl rfl (by decide) rfl ?_
        refine e_bipush (v := 40) dX4_lacks_60 rfl ?_
        refine e_iload_n dX4_lacks_62 rfl ?_
        refine e_imul dX4_lacks_63 ?_
        refine e_iload_n dX4_lacks_64 rfl ?_
        refine e_iadd dX4_lacks_65 ?_
        refine e_iload dX4_lacks_66 rfl ?_
        refine e_iadd dX4_lacks_68 ?_
        refine e_iald dX4_lacks_69 rfl (((40 * r) + i) + u) (j_add (j_add (j_mul rfl rfl) rfl) rfl) (by omega) (by decide) ?_
        refine e_i2l dX4_lacks_70 ?_
        refine e_lconst (v := 0) dX4_lacks_71 rfl ?_
        refine e_ldc2 dX4_lacks_72 kkX4_58 ?_
        refine e_callSi (n := 3) mX4_in [.long (Int32.toInt64 (m 101 (((40 * r) + i) + u))), .long 0, .long (7)] dX4_lacks_75 ckX4_60 rfl (by decide +kernel) rfl rfl (Nat.le_of_ble_eq_true rfl) ⟨Nat.zero_le _, Nat.zero_le _⟩ (s_inN (m 101 (((40 * r) + i) + u)) (7) 8 (by decide) (by decide) m) (fun v75 m2 hm2 => ?_)
        rcases hm2 with ⟨rfl, ⟨rfl, q3⟩ | ⟨rfl, q3⟩⟩
        · refine e_if_eq 85 dX4_lacks_78 (by decide) (fun h => absurd h (by decide)) (fun c78 => ?_)
          refine e_iconst (v := 1) dX4_lacks_81 rfl ?_
          refine e_goto 86 dX4_lacks_82 (by decide) ?_
          refine e_istore (L' := [some (.ref 98), some (.int (nI r)), some (.int (nI i)), some (.int (nI n)), some (.int 1), some (.int (nI u))]) dX4_lacks_86 (Nat.le_of_ble_eq_true rfl) (Nat.le_of_ble_eq_true rfl) (jnl_at (i := 3) rfl) rfl ?_
          refine e_iinc (v := nI (u + 1)) (L' := [some (.ref 98), some (.int (nI r)), some (.int (nI i)), some (.int (nI n)), some (.int 1), some (.int (nI (u + 1)))]) dX4_lacks_88 rfl (j_inc rfl) (by decide) (jnl_at (i := 4) rfl) rfl ?_
          refine e_goto 45 dX4_lacks_91 (by decide) ?_
          refine e_start ?_ rfl ih
          simp_all [goodB, b01, inN, Nat.add_assoc, j_ltn, -Int32.not_le, -Int32.not_lt]
        · refine e_if_eq 85 dX4_lacks_78 (by decide) (fun c78 => ?_) (fun h => absurd h (by decide))
          refine e_iconst (v := 0) dX4_lacks_85 rfl ?_
          refine e_istore (L' := [some (.ref 98), some (.int (nI r)), some (.int (nI i)), some (.int (nI n)), some (.int 0), some (.int (nI u))]) dX4_lacks_86 (Nat.le_of_ble_eq_true rfl) (Nat.le_of_ble_eq_true rfl) (jnl_at (i := 3) rfl) rfl ?_
          refine e_iinc (v := nI (u + 1)) (L' := [some (.ref 98), some (.int (nI r)), some (.int (nI i)), some (.int (nI n)), some (.int 0), some (.int (nI (u + 1)))]) dX4_lacks_88 rfl (j_inc rfl) (by decide) (jnl_at (i := 4) rfl) rfl ?_
          refine e_goto 45 dX4_lacks_91 (by decide) ?_
          refine e_start ?_ rfl ih
          simp_all [goodB, b01, inN, Nat.add_assoc, j_ltn, -Int32.not_le, -Int32.not_lt]
  · exact False.elim (q hin)

set_option maxHeartbeats 2000000 in
set_option maxRecDepth 20000 in
theorem s_singAlone (m : jM) (V : Nat) (hV : V ≤ 3) (h1 : m 102 1 = nI V) (P : Nat) (hP : P ≤ 5) (h2 : m 102 2 = nI P) (s : Nat) (hs : s < V) (o n : Nat) (ho : o + n ≤ 320) (c : Int32) : vX mX4_singAlone [.ref 98, .int (nI s), .int (nI o), .int (nI n), .int c] m (fun m1 => ∃ f, m1 = jup (jup m 106 f) 102 (aloneB (m 102) s (fun j => m 101 (o + j)) c V P n)) := by
  refine jX_of (L := [some (.ref 98), some (.int (nI s)), some (.int (nI o)), some (.int (nI n)), some (.int c), none, none]) 2 rfl rfl (by decide +kernel) rfl ?_
  refine e_iconst (v := 0) dX4_singAlone_0 rfl ?_
  refine e_istore (L' := [some (.ref 98), some (.int (nI s)), some (.int (nI o)), some (.int (nI n)), some (.int c), some (.int 0), none]) dX4_singAlone_1 (Nat.le_of_ble_eq_true rfl) (Nat.le_of_ble_eq_true rfl) (jnl_at (i := 4) rfl) rfl ?_
  refine e_loopS (σ := Nat → Int32) 3 n (fun k f => [some (.ref 98), some (.int (nI s)), some (.int (nI o)), some (.int (nI n)), some (.int c), some (.int (nI k)), none]) (fun k f mm => mm = jup (jup m 106 f) 102 (aloneB (m 102) s (fun j => m 101 (o + j)) c V P k)) 0 (m 106) (Nat.zero_le _) rfl (by rw [jup_id]; exact (jup_id m 102).symm) ?_ ?_
  · intro f mm hI
    show jE _ _ 3 [some (.ref 98), some (.int (nI s)), some (.int (nI o)), some (.int (nI n)), some (.int c), some (.int (nI n)), none] [] mm
    refine e_iload dX4_singAlone_3 rfl ?_
    refine e_iload_n dX4_singAlone_5 rfl ?_
    refine e_icmp_ge 67 dX4_singAlone_6 (by decide) (fun c6 => ?_) (fun h => absurd (j_done rfl rfl) h)
    exact e_vret dX4_singAlone_67 rfl (⟨f, hI⟩)
  · intro k hk f mm hI ih
    show jE _ _ 3 [some (.ref 98), some (.int (nI s)), some (.int (nI o)), some (.int (nI n)), some (.int c), some (.int (nI k)), none] [] mm
    refine e_iload dX4_singAlone_3 rfl ?_
    refine e_iload_n dX4_singAlone_5 rfl ?_
    refine e_icmp_ge 67 dX4_singAlone_6 (by decide) (fun h => absurd h (j_more (N := n) rfl rfl (by omega) (by omega))) (fun c6 => ?_)
    refine e_aload_n dX4_singAlone_9 rfl ?_
    refine e_callVv (n := 0) mX4_allRest [] dX4_singAlone_10 ckX4_177 rfl (by decide +kernel) rfl rfl rfl rfl (Nat.le_of_ble_eq_true rfl) ⟨Nat.zero_le _, Nat.zero_le _⟩ (s_allRest mm) (fun mr hmr => ?_)
    have e102 : mr 102 = aloneB (m 102) s (fun j => m 101 (o + j)) c V P k := by rw [← hmr, jup_n _ _ (by decide), hI, jup_s]
    have e101 : mr 101 = m 101 := by rw [← hmr, jup_n _ _ (by decide), hI, jup_n _ _ (by decide), jup_n _ _ (by decide)]
    have e106 : mr 106 = va_cpy (fun _ => 7) f 0 0 3 := by rw [← hmr, jup_s, hI, jup_n _ _ (by decide), jup_s]
    refine e_aload_n dX4_singAlone_13 rfl ?_
    refine e_getR (o := 3) (b := 101) dX4_singAlone_14 lkX4_16 rfl rfl (by decide) rfl ?_
    refine e_iload_n dX4_singAlone_17 rfl ?_
    refine e_iload dX4_singAlone_18 rfl ?_
    refine e_iadd dX4_singAlone_20 ?_
    refine e_iald dX4_singAlone_21 rfl (o + k) (j_add rfl rfl) (by omega) (by decide) ?_
    rw [show mr 101 (o + k) = m 101 (o + k) from by rw [e101]]
    refine e_istore (L' := [some (.ref 98), some (.int (nI s)), some (.int (nI o)), some (.int (nI n)), some (.int c), some (.int (nI k)), some (.int (m 101 (o + k)))]) dX4_singAlone_22 (Nat.le_of_ble_eq_true rfl) (Nat.le_of_ble_eq_true rfl) (jnl_at (i := 5) rfl) rfl ?_
    refine e_aload_n dX4_singAlone_24 rfl ?_
    refine e_getR (o := 8) (b := 106) dX4_singAlone_25 lkX4_31 rfl rfl (by decide) rfl ?_
    refine e_iload_n dX4_singAlone_28 rfl ?_
    refine e_iload dX4_singAlone_29 rfl ?_
    refine e_iload dX4_singAlone_31 rfl ?_
    refine e_callSi (n := 2) mX4_has [.int c, .int (nI k)] dX4_singAlone_33 ckX4_149 rfl (by decide +kernel) rfl rfl (Nat.le_of_ble_eq_true rfl) ⟨Nat.zero_le _, Nat.zero_le _⟩ (s_has c (nI k) mr) (fun v33 m2 hm2 => ?_)
    rcases hm2 with ⟨rfl, ⟨rfl, q1⟩ | ⟨rfl, q1⟩⟩
    · refine e_if_ne 49 dX4_singAlone_36 (by decide) (fun c36 => ?_) (fun h => absurd h (by decide))
      refine e_bipush (v := 7) dX4_singAlone_49 rfl ?_
      refine e_goto 56 dX4_singAlone_51 (by decide) ?_
      refine e_iast dX4_singAlone_56 rfl s rfl (by omega) (by decide) (fun ma hma => ?_)
      obtain ⟨xv, hxv⟩ : ∃ y : Int32, y = 7 := ⟨_, rfl⟩
      refine e_aload_n dX4_singAlone_57 rfl ?_
      refine e_callVv (n := 0) mX4_oneBar [] dX4_singAlone_58 ckX4_164 rfl (by decide +kernel) rfl rfl rfl rfl (Nat.le_of_ble_eq_true rfl) ⟨Nat.zero_le _, Nat.zero_le _⟩ (s_oneBar ma V hV (by rw [hma, jup_n _ _ (by decide), e102]; exact (aloneB_lo hV (by omega) (by decide) _).trans h1) P hP (by rw [hma, jup_n _ _ (by decide), e102]; exact (aloneB_lo hV (by omega) (by decide) _).trans h2)) (fun mo hmo => ?_)
      refine e_iinc (v := nI (k + 1)) (L' := [some (.ref 98), some (.int (nI s)), some (.int (nI o)), some (.int (nI n)), some (.int c), some (.int (nI (k + 1))), some (.int (m 101 (o + k)))]) dX4_singAlone_61 rfl (j_inc rfl) (by decide) (jnl_at (i := 4) rfl) rfl ?_
      refine e_goto 3 dX4_singAlone_64 (by decide) ?_
      refine e_weak [some (.ref 98), some (.int (nI s)), some (.int (nI o)), some (.int (nI n)), some (.int c), some (.int (nI (k + 1))), none] (by simp [jle]) ?_
      refine ih (ma 106) _ ?_
      have g106 : ma 106 = upd (va_cpy (fun _ => 7) f 0 0 3) s xv := by rw [hma, jup_s, e106, hxv]
      have g102 : ma 102 = aloneB (m 102) s (fun j => m 101 (o + j)) c V P k := by rw [hma, jup_n _ _ (by decide), e102]
      rw [← hmo, g102]
      have gm : jup ma 102 (oneB (aloneB (m 102) s (fun j => m 101 (o + j)) c V P k) (ma 106) V P) = jup (jup m 106 (ma 106)) 102 (oneB (aloneB (m 102) s (fun j => m 101 (o + j)) c V P k) (ma 106) V P) := by
        rw [hma, ← hmr, hI]
        funext a
        unfold jup
        by_cases a1 : a = 102 <;> by_cases a2 : a = 106 <;> simp_all
      rw [gm]
      refine congrArg (jup (jup m 106 (ma 106)) 102) (oneB_congr (fun j hj => ?_))
      rw [g106]
      unfold ntS upd
      by_cases a1 : j = s
      · rw [if_pos a1, if_pos a1]
        rw [hxv]; simp_all [btI]
      · rw [if_neg a1, if_neg a1, rest3_hi f (by omega)]
    · refine e_if_ne 49 dX4_singAlone_36 (by decide) (fun h => absurd h (by decide)) (fun c36 => ?_)
      refine e_aload_n dX4_singAlone_39 rfl ?_
      refine e_iload_n dX4_singAlone_40 rfl ?_
      refine e_iload dX4_singAlone_41 rfl ?_
      refine e_callVi (n := 2) mX4_canSing [.int (nI s), .int (m 101 (o + k))] dX4_singAlone_43 ckX4_158 rfl (by decide +kernel) rfl rfl rfl rfl (Nat.le_of_ble_eq_true rfl) ⟨Nat.zero_le _, Nat.zero_le _⟩ (s_canB s (by omega) (m 101 (o + k)) mr) (fun v43 m5 hm5 => ?_)
      rcases hm5 with ⟨rfl, ⟨rfl, q2⟩ | ⟨rfl, q2⟩⟩
      · rw [e102] at q2
        refine e_if_ne 54 dX4_singAlone_46 (by decide) (fun c46 => ?_) (fun h => absurd h (by decide))
        refine e_iload dX4_singAlone_54 rfl ?_
        refine e_iast dX4_singAlone_56 rfl s rfl (by omega) (by decide) (fun ma hma => ?_)
        obtain ⟨xv, hxv⟩ : ∃ y : Int32, y = m 101 (o + k) := ⟨_, rfl⟩
        refine e_aload_n dX4_singAlone_57 rfl ?_
        refine e_callVv (n := 0) mX4_oneBar [] dX4_singAlone_58 ckX4_164 rfl (by decide +kernel) rfl rfl rfl rfl (Nat.le_of_ble_eq_true rfl) ⟨Nat.zero_le _, Nat.zero_le _⟩ (s_oneBar ma V hV (by rw [hma, jup_n _ _ (by decide), e102]; exact (aloneB_lo hV (by omega) (by decide) _).trans h1) P hP (by rw [hma, jup_n _ _ (by decide), e102]; exact (aloneB_lo hV (by omega) (by decide) _).trans h2)) (fun mo hmo => ?_)
        refine e_iinc (v := nI (k + 1)) (L' := [some (.ref 98), some (.int (nI s)), some (.int (nI o)), some (.int (nI n)), some (.int c), some (.int (nI (k + 1))), some (.int (m 101 (o + k)))]) dX4_singAlone_61 rfl (j_inc rfl) (by decide) (jnl_at (i := 4) rfl) rfl ?_
        refine e_goto 3 dX4_singAlone_64 (by decide) ?_
        refine e_weak [some (.ref 98), some (.int (nI s)), some (.int (nI o)), some (.int (nI n)), some (.int c), some (.int (nI (k + 1))), none] (by simp [jle]) ?_
        refine ih (ma 106) _ ?_
        have g106 : ma 106 = upd (va_cpy (fun _ => 7) f 0 0 3) s xv := by rw [hma, jup_s, e106, hxv]
        have g102 : ma 102 = aloneB (m 102) s (fun j => m 101 (o + j)) c V P k := by rw [hma, jup_n _ _ (by decide), e102]
        rw [← hmo, g102]
        have gm : jup ma 102 (oneB (aloneB (m 102) s (fun j => m 101 (o + j)) c V P k) (ma 106) V P) = jup (jup m 106 (ma 106)) 102 (oneB (aloneB (m 102) s (fun j => m 101 (o + j)) c V P k) (ma 106) V P) := by
          rw [hma, ← hmr, hI]
          funext a
          unfold jup
          by_cases a1 : a = 102 <;> by_cases a2 : a = 106 <;> simp_all
        rw [gm]
        refine congrArg (jup (jup m 106 (ma 106)) 102) (oneB_congr (fun j hj => ?_))
        rw [g106]
        unfold ntS upd
        by_cases a1 : j = s
        · rw [if_pos a1, if_pos a1]
          rw [hxv]; simp_all [btI]
        · rw [if_neg a1, if_neg a1, rest3_hi f (by omega)]
      · rw [e102] at q2
        refine e_if_ne 54 dX4_singAlone_46 (by decide) (fun h => absurd h (by decide)) (fun c46 => ?_)
        refine e_bipush (v := 7) dX4_singAlone_49 rfl ?_
        refine e_goto 56 dX4_singAlone_51 (by decide) ?_
        refine e_iast dX4_singAlone_56 rfl s rfl (by omega) (by decide) (fun ma hma => ?_)
        obtain ⟨xv, hxv⟩ : ∃ y : Int32, y = 7 := ⟨_, rfl⟩
        refine e_aload_n dX4_singAlone_57 rfl ?_
        refine e_callVv (n := 0) mX4_oneBar [] dX4_singAlone_58 ckX4_164 rfl (by decide +kernel) rfl rfl rfl rfl (Nat.le_of_ble_eq_true rfl) ⟨Nat.zero_le _, Nat.zero_le _⟩ (s_oneBar ma V hV (by rw [hma, jup_n _ _ (by decide), e102]; exact (aloneB_lo hV (by omega) (by decide) _).trans h1) P hP (by rw [hma, jup_n _ _ (by decide), e102]; exact (aloneB_lo hV (by omega) (by decide) _).trans h2)) (fun mo hmo => ?_)
        refine e_iinc (v := nI (k + 1)) (L' := [some (.ref 98), some (.int (nI s)), some (.int (nI o)), some (.int (nI n)), some (.int c), some (.int (nI (k + 1))), some (.int (m 101 (o + k)))]) dX4_singAlone_61 rfl (j_inc rfl) (by decide) (jnl_at (i := 4) rfl) rfl ?_
        refine e_goto 3 dX4_singAlone_64 (by decide) ?_
        refine e_weak [some (.ref 98), some (.int (nI s)), some (.int (nI o)), some (.int (nI n)), some (.int c), some (.int (nI (k + 1))), none] (by simp [jle]) ?_
        refine ih (ma 106) _ ?_
        have g106 : ma 106 = upd (va_cpy (fun _ => 7) f 0 0 3) s xv := by rw [hma, jup_s, e106, hxv]
        have g102 : ma 102 = aloneB (m 102) s (fun j => m 101 (o + j)) c V P k := by rw [hma, jup_n _ _ (by decide), e102]
        rw [← hmo, g102]
        have gm : jup ma 102 (oneB (aloneB (m 102) s (fun j => m 101 (o + j)) c V P k) (ma 106) V P) = jup (jup m 106 (ma 106)) 102 (oneB (aloneB (m 102) s (fun j => m 101 (o + j)) c V P k) (ma 106) V P) := by
          rw [hma, ← hmr, hI]
          funext a
          unfold jup
          by_cases a1 : a = 102 <;> by_cases a2 : a = 106 <;> simp_all
        rw [gm]
        refine congrArg (jup (jup m 106 (ma 106)) 102) (oneB_congr (fun j hj => ?_))
        rw [g106]
        unfold ntS upd
        by_cases a1 : j = s
        · rw [if_pos a1, if_pos a1]
          rw [hxv]; simp_all [btI]
        · rw [if_neg a1, if_neg a1, rest3_hi f (by omega)]

set_option maxHeartbeats 2000000 in
set_option maxRecDepth 20000 in
theorem s_sr25 (m : jM) (V : Nat) (hV : V ≤ 3) (h1 : m 102 1 = nI V) (P : Nat) (hP : P ≤ 5) (h2 : m 102 2 = nI P) (d o n w : Nat) (hd : d ≤ 8) (hn : n ≤ 16) (ho : o + n ≤ 320) (hw : n + w = rlen d n V) (hw2 : w ≤ 16) : jE (jmd mX4_singRound (vP (fun m1 => ∃ f, m1 = jup (jup m 106 f) 102 (roundB (m 102) (fun j => m 101 (o + j)) d n V P (rlen d n V))))) mX4_singRound 25 [some (.ref 98), some (.int (nI d)), some (.int (nI o)), some (.int (nI n)), some (.int (nI w)), none, none, none, none] [] m := by
  refine e_iconst (v := 0) dX4_singRound_25 rfl ?_
  refine e_istore (L' := [some (.ref 98), some (.int (nI d)), some (.int (nI o)), some (.int (nI n)), some (.int (nI w)), some (.int 0), none, none, none]) dX4_singRound_26 (Nat.le_of_ble_eq_true rfl) (Nat.le_of_ble_eq_true rfl) (jnl_at (i := 4) rfl) rfl ?_
  refine e_loopS (σ := Nat → Int32) 28 (n + w) (fun k f => [some (.ref 98), some (.int (nI d)), some (.int (nI o)), some (.int (nI n)), some (.int (nI w)), some (.int (nI k)), none, none, none]) (fun k f mm => mm = jup (jup m 106 f) 102 (roundB (m 102) (fun j => m 101 (o + j)) d n V P k)) 0 (m 106) (Nat.zero_le _) rfl (by rw [jup_id]; exact (jup_id m 102).symm) ?_ ?_
  · intro f mm hI
    show jE _ _ 28 [some (.ref 98), some (.int (nI d)), some (.int (nI o)), some (.int (nI n)), some (.int (nI w)), some (.int (nI (n + w))), none, none, none] [] mm
    refine e_iload dX4_singRound_28 rfl ?_
    refine e_iload_n dX4_singRound_30 rfl ?_
    refine e_iload dX4_singRound_31 rfl ?_
    refine e_iadd dX4_singRound_33 ?_
    refine e_icmp_ge 135 dX4_singRound_34 (by decide) (fun c34 => ?_) (fun h => absurd (j_done rfl (j_add rfl rfl)) h)
    exact e_vret dX4_singRound_135 rfl (⟨f, by rw [← hw]; exact hI⟩)
  · intro k hk f mm hI ih
    show jE _ _ 28 [some (.ref 98), some (.int (nI d)), some (.int (nI o)), some (.int (nI n)), some (.int (nI w)), some (.int (nI k)), none, none, none] [] mm
    refine e_iload dX4_singRound_28 rfl ?_
    refine e_iload_n dX4_singRound_30 rfl ?_
    refine e_iload dX4_singRound_31 rfl ?_
    refine e_iadd dX4_singRound_33 ?_
    refine e_icmp_ge 135 dX4_singRound_34 (by decide) (fun h => absurd h (j_more (N := n + w) rfl (j_add rfl rfl) (by omega) (by omega))) (fun c34 => ?_)
    refine e_aload_n dX4_singRound_37 rfl ?_
    refine e_callVv (n := 0) mX4_allRest [] dX4_singRound_38 ckX4_177 rfl (by decide +kernel) rfl rfl rfl rfl (Nat.le_of_ble_eq_true rfl) ⟨Nat.zero_le _, Nat.zero_le _⟩ (s_allRest mm) (fun mr hmr => ?_)
    have e102 : mr 102 = roundB (m 102) (fun j => m 101 (o + j)) d n V P k := by rw [← hmr, jup_n _ _ (by decide), hI, jup_s]
    have e101 : mr 101 = m 101 := by rw [← hmr, jup_n _ _ (by decide), hI, jup_n _ _ (by decide), jup_n _ _ (by decide)]
    have e106 : mr 106 = va_cpy (fun _ => 7) f 0 0 3 := by rw [← hmr, jup_s, hI, jup_n _ _ (by decide), jup_s]
    refine e_iconst (v := 0) dX4_singRound_41 rfl ?_
    refine e_istore (L' := [some (.ref 98), some (.int (nI d)), some (.int (nI o)), some (.int (nI n)), some (.int (nI w)), some (.int (nI k)), some (.int 0), none, none]) dX4_singRound_42 (Nat.le_of_ble_eq_true rfl) (Nat.le_of_ble_eq_true rfl) (jnl_at (i := 5) rfl) rfl ?_
    refine e_loop 44 V (fun u => [some (.ref 98), some (.int (nI d)), some (.int (nI o)), some (.int (nI n)), some (.int (nI w)), some (.int (nI k)), some (.int (nI u)), none, none]) (fun u => jup mr 106 (va_cpy (ntR (roundB (m 102) (fun j => m 101 (o + j)) d n V P k) (fun j => m 101 (o + j)) d n k V) (mr 106) 0 0 u)) 0 (Nat.zero_le _) rfl (by rw [cpy_0, jup_id]) ?_ ?_
    · show jE _ _ 44 [some (.ref 98), some (.int (nI d)), some (.int (nI o)), some (.int (nI n)), some (.int (nI w)), some (.int (nI k)), some (.int (nI V)), none, none] [] (jup mr 106 (va_cpy (ntR (roundB (m 102) (fun j => m 101 (o + j)) d n V P k) (fun j => m 101 (o + j)) d n k V) (mr 106) 0 0 V))
      obtain ⟨mf, hmf⟩ : ∃ y : jM, y = jup mr 106 (va_cpy (ntR (roundB (m 102) (fun j => m 101 (o + j)) d n V P k) (fun j => m 101 (o + j)) d n k V) (mr 106) 0 0 V) := ⟨_, rfl⟩
      refine e_start rfl hmf.symm ?_
      refine e_iload dX4_singRound_44 rfl ?_
      refine e_aload_n dX4_singRound_46 rfl ?_
      refine e_getR (o := 4) (b := 102) dX4_singRound_47 lkX4_19 rfl rfl (by decide) rfl ?_
      refine e_iconst (v := 1) dX4_singRound_50 rfl ?_
      refine e_iald dX4_singRound_51 rfl 1 rfl (by decide) (by decide) ?_
      rw [show mf 102 1 = nI V from by rw [hmf, jup_n _ _ (by decide), e102]; exact (roundB_lo hV (by omega) (by decide) _).trans h1]
      refine e_icmp_ge 125 dX4_singRound_52 (by decide) (fun c52 => ?_) (fun h => absurd (j_done rfl rfl) h)
      refine e_aload_n dX4_singRound_125 rfl ?_
      refine e_callVv (n := 0) mX4_oneBar [] dX4_singRound_126 ckX4_164 rfl (by decide +kernel) rfl rfl rfl rfl (Nat.le_of_ble_eq_true rfl) ⟨Nat.zero_le _, Nat.zero_le _⟩ (s_oneBar mf V hV (by rw [hmf, jup_n _ _ (by decide), e102]; exact (roundB_lo hV (by omega) (by decide) _).trans h1) P hP (by rw [hmf, jup_n _ _ (by decide), e102]; exact (roundB_lo hV (by omega) (by decide) _).trans h2)) (fun mo hmo => ?_)
      refine e_iinc (v := nI (k + 1)) (L' := [some (.ref 98), some (.int (nI d)), some (.int (nI o)), some (.int (nI n)), some (.int (nI w)), some (.int (nI (k + 1))), some (.int (nI V)), none, none]) dX4_singRound_129 rfl (j_inc rfl) (by decide) (jnl_at (i := 4) rfl) rfl ?_
      refine e_goto 28 dX4_singRound_132 (by decide) ?_
      refine e_weak [some (.ref 98), some (.int (nI d)), some (.int (nI o)), some (.int (nI n)), some (.int (nI w)), some (.int (nI (k + 1))), none, none, none] (by simp [jle]) ?_
      refine ih (mf 106) _ ?_
      have g102 : mf 102 = roundB (m 102) (fun j => m 101 (o + j)) d n V P k := by rw [hmf, jup_n _ _ (by decide), e102]
      rw [← hmo, g102]
      have gm : jup mf 102 (oneB (roundB (m 102) (fun j => m 101 (o + j)) d n V P k) (mf 106) V P) = jup (jup m 106 (mf 106)) 102 (oneB (roundB (m 102) (fun j => m 101 (o + j)) d n V P k) (mf 106) V P) := by
        rw [hmf, ← hmr, hI]
        funext a
        unfold jup
        by_cases a1 : a = 102 <;> by_cases a2 : a = 106 <;> simp_all
      rw [gm]
      refine congrArg (jup (jup m 106 (mf 106)) 102) (oneB_congr (fun j hj => ?_))
      rw [hmf, jup_s]
      unfold va_cpy
      rw [if_pos (by omega), Nat.zero_add, Nat.sub_zero]
    · intro u hk2 ih2
      show jE _ _ 44 [some (.ref 98), some (.int (nI d)), some (.int (nI o)), some (.int (nI n)), some (.int (nI w)), some (.int (nI k)), some (.int (nI u)), none, none] [] (jup mr 106 (va_cpy (ntR (roundB (m 102) (fun j => m 101 (o + j)) d n V P k) (fun j => m 101 (o + j)) d n k V) (mr 106) 0 0 u))
      obtain ⟨mb, hmb⟩ : ∃ y : jM, y = jup mr 106 (va_cpy (ntR (roundB (m 102) (fun j => m 101 (o + j)) d n V P k) (fun j => m 101 (o + j)) d n k V) (mr 106) 0 0 u) := ⟨_, rfl⟩
      refine e_start rfl hmb.symm ?_
      refine e_iload dX4_singRound_44 rfl ?_
      refine e_aload_n dX4_singRound_46 rfl ?_
      refine e_getR (o := 4) (b := 102) dX4_singRound_47 lkX4_19 rfl rfl (by decide) rfl ?_
      refine e_iconst (v := 1) dX4_singRound_50 rfl ?_
      refine e_iald dX4_singRound_51 rfl 1 rfl (by decide) (by decide) ?_
      rw [show mb 102 1 = nI V from by rw [hmb, jup_n _ _ (by decide), e102]; exact (roundB_lo hV (by omega) (by decide) _).trans h1]
      refine e_icmp_ge 125 dX4_singRound_52 (by decide) (fun h => absurd h (j_more (N := V) rfl rfl (by omega) (by omega))) (fun c52 => ?_)
      refine e_iload dX4_singRound_55 rfl ?_
      refine e_iload dX4_singRound_57 rfl ?_
      refine e_iload_n dX4_singRound_59 rfl ?_
      refine e_imul dX4_singRound_60 ?_
      rw [show (nI u) * (nI d) = nI (u * d) from pk_mul u d]
      refine e_isub dX4_singRound_61 ?_
      refine e_istore (L' := [some (.ref 98), some (.int (nI d)), some (.int (nI o)), some (.int (nI n)), some (.int (nI w)), some (.int (nI k)), some (.int (nI u)), some (.int ((nI k) - (nI (u * d)))), none]) dX4_singRound_62 (Nat.le_of_ble_eq_true rfl) (Nat.le_of_ble_eq_true rfl) (jnl_at (i := 6) rfl) rfl ?_
      refine e_iload dX4_singRound_64 rfl ?_
      refine e_i2l dX4_singRound_66 ?_
      refine e_lconst (v := 0) dX4_singRound_67 rfl ?_
      refine e_iload_n dX4_singRound_68 rfl ?_
      refine e_iconst (v := 1) dX4_singRound_69 rfl ?_
      refine e_isub dX4_singRound_70 ?_
      refine e_i2l dX4_singRound_71 ?_
      refine e_callSi (n := 3) mX4_in [.long (Int32.toInt64 ((nI k) - (nI (u * d)))), .long 0, .long (Int32.toInt64 ((nI n) - 1))] dX4_singRound_72 ckX4_60 rfl (by decide +kernel) rfl rfl (Nat.le_of_ble_eq_true rfl) ⟨Nat.zero_le _, Nat.zero_le _⟩ (s_inP ((nI k) - (nI (u * d))) n (by omega) mb) (fun v72 m3 hm3 => ?_)
      rcases hm3 with ⟨rfl, ⟨rfl, q4⟩ | ⟨rfl, q4⟩⟩
      · refine e_if_eq 90 dX4_singRound_75 (by decide) (fun h => absurd h (by decide)) (fun c75 => ?_)
        have q4b := (inN_sub (a := k) (b := u * d) (n := n) (by have : u * d ≤ 2 * 8 := Nat.mul_le_mul (by omega) hd; omega) (by have : u * d ≤ 2 * 8 := Nat.mul_le_mul (by omega) hd; omega) (by omega)).mp q4
        rw [show nI k - nI (u * d) = nI (k - u * d) from pk_sub q4b.1]
        refine e_aload_n dX4_singRound_78 rfl ?_
        refine e_getR (o := 3) (b := 101) dX4_singRound_79 lkX4_16 rfl rfl (by decide) rfl ?_
        refine e_iload_n dX4_singRound_82 rfl ?_
        refine e_iload dX4_singRound_83 rfl ?_
        refine e_iadd dX4_singRound_85 ?_
        refine e_iald dX4_singRound_86 rfl (o + (k - u * d)) (j_add rfl rfl) (by omega) (by decide) ?_
        rw [show mb 101 (o + (k - u * d)) = m 101 (o + (k - u * d)) from by rw [hmb, jup_n _ _ (by decide), e101]]
        refine e_goto 92 dX4_singRound_87 (by decide) ?_
        refine e_istore (L' := [some (.ref 98), some (.int (nI d)), some (.int (nI o)), some (.int (nI n)), some (.int (nI w)), some (.int (nI k)), some (.int (nI u)), some (.int (nI (k - u * d))), some (.int (m 101 (o + (k - u * d))))]) dX4_singRound_92 (Nat.le_of_ble_eq_true rfl) (Nat.le_of_ble_eq_true rfl) (jnl_at (i := 7) rfl) rfl ?_
        have q44 : (if u * d ≤ k ∧ k - u * d < n then (fun j => m 101 (o + j)) (k - u * d) else 7) = m 101 (o + (k - u * d)) := by rw [if_pos q4b]
        refine e_aload_n dX4_singRound_94 rfl ?_
        refine e_getR (o := 8) (b := 106) dX4_singRound_95 lkX4_31 rfl rfl (by decide) rfl ?_
        refine e_iload dX4_singRound_98 rfl ?_
        refine e_aload_n dX4_singRound_100 rfl ?_
        refine e_iload dX4_singRound_101 rfl ?_
        refine e_iload dX4_singRound_103 rfl ?_
        refine e_callVi (n := 2) mX4_canSing [.int (nI u), .int (m 101 (o + (k - u * d)))] dX4_singRound_105 ckX4_158 rfl (by decide +kernel) rfl rfl rfl rfl (Nat.le_of_ble_eq_true rfl) ⟨Nat.zero_le _, Nat.zero_le _⟩ (s_canB u (by omega) (m 101 (o + (k - u * d))) mb) (fun v105 m4 hm4 => ?_)
        rcases hm4 with ⟨rfl, ⟨rfl, q5⟩ | ⟨rfl, q5⟩⟩
        · refine e_if_eq 116 dX4_singRound_108 (by decide) (fun h => absurd h (by decide)) (fun c108 => ?_)
          rw [hmb, jup_n _ _ (by decide), e102] at q5
          refine e_iload dX4_singRound_111 rfl ?_
          refine e_goto 118 dX4_singRound_113 (by decide) ?_
          refine e_iast dX4_singRound_118 rfl u rfl (by omega) (by decide) (fun m5 hm5 => ?_)
          refine e_iinc (v := nI (u + 1)) (L' := [some (.ref 98), some (.int (nI d)), some (.int (nI o)), some (.int (nI n)), some (.int (nI w)), some (.int (nI k)), some (.int (nI (u + 1))), some (.int (nI (k - u * d))), some (.int (m 101 (o + (k - u * d))))]) dX4_singRound_119 rfl (j_inc rfl) (by decide) (jnl_at (i := 5) rfl) rfl ?_
          refine e_goto 44 dX4_singRound_122 (by decide) ?_
          refine e_weak [some (.ref 98), some (.int (nI d)), some (.int (nI o)), some (.int (nI n)), some (.int (nI w)), some (.int (nI k)), some (.int (nI (u + 1))), none, none] (by simp [jle]) ?_
          refine e_start rfl ?_ ih2
          rw [hm5, hmb, jup_s, jup_jup]
          refine congrArg (jup mr 106) (cpy_s0' ?_)
          rw [Nat.zero_add]
          unfold ntR
          rw [if_pos hk2, q44]
          first | rw [if_pos q5] | rw [if_neg q5]
        · refine e_if_eq 116 dX4_singRound_108 (by decide) (fun c108 => ?_) (fun h => absurd h (by decide))
          rw [hmb, jup_n _ _ (by decide), e102] at q5
          refine e_bipush (v := 7) dX4_singRound_116 rfl ?_
          refine e_iast dX4_singRound_118 rfl u rfl (by omega) (by decide) (fun m6 hm6 => ?_)
          refine e_iinc (v := nI (u + 1)) (L' := [some (.ref 98), some (.int (nI d)), some (.int (nI o)), some (.int (nI n)), some (.int (nI w)), some (.int (nI k)), some (.int (nI (u + 1))), some (.int (nI (k - u * d))), some (.int (m 101 (o + (k - u * d))))]) dX4_singRound_119 rfl (j_inc rfl) (by decide) (jnl_at (i := 5) rfl) rfl ?_
          refine e_goto 44 dX4_singRound_122 (by decide) ?_
          refine e_weak [some (.ref 98), some (.int (nI d)), some (.int (nI o)), some (.int (nI n)), some (.int (nI w)), some (.int (nI k)), some (.int (nI (u + 1))), none, none] (by simp [jle]) ?_
          refine e_start rfl ?_ ih2
          rw [hm6, hmb, jup_s, jup_jup]
          refine congrArg (jup mr 106) (cpy_s0' ?_)
          rw [Nat.zero_add]
          unfold ntR
          rw [if_pos hk2, q44]
          first | rw [if_pos q5] | rw [if_neg q5]
      · refine e_if_eq 90 dX4_singRound_75 (by decide) (fun c75 => ?_) (fun h => absurd h (by decide))
        refine e_bipush (v := 7) dX4_singRound_90 rfl ?_
        refine e_istore (L' := [some (.ref 98), some (.int (nI d)), some (.int (nI o)), some (.int (nI n)), some (.int (nI w)), some (.int (nI k)), some (.int (nI u)), some (.int ((nI k) - (nI (u * d)))), some (.int 7)]) dX4_singRound_92 (Nat.le_of_ble_eq_true rfl) (Nat.le_of_ble_eq_true rfl) (jnl_at (i := 7) rfl) rfl ?_
        have q44 : (if u * d ≤ k ∧ k - u * d < n then (fun j => m 101 (o + j)) (k - u * d) else 7) = 7 := by rw [if_neg (fun z => q4 ((inN_sub (by omega) (by omega) (by omega)).mpr z))]
        refine e_aload_n dX4_singRound_94 rfl ?_
        refine e_getR (o := 8) (b := 106) dX4_singRound_95 lkX4_31 rfl rfl (by decide) rfl ?_
        refine e_iload dX4_singRound_98 rfl ?_
        refine e_aload_n dX4_singRound_100 rfl ?_
        refine e_iload dX4_singRound_101 rfl ?_
        refine e_iload dX4_singRound_103 rfl ?_
        refine e_callVi (n := 2) mX4_canSing [.int (nI u), .int 7] dX4_singRound_105 ckX4_158 rfl (by decide +kernel) rfl rfl rfl rfl (Nat.le_of_ble_eq_true rfl) ⟨Nat.zero_le _, Nat.zero_le _⟩ (s_canB u (by omega) 7 mb) (fun v105 m7 hm7 => ?_)
        rcases hm7 with ⟨rfl, ⟨rfl, q5⟩ | ⟨rfl, q5⟩⟩
        · refine e_if_eq 116 dX4_singRound_108 (by decide) (fun h => absurd h (by decide)) (fun c108 => ?_)
          rw [hmb, jup_n _ _ (by decide), e102] at q5
          refine e_iload dX4_singRound_111 rfl ?_
          refine e_goto 118 dX4_singRound_113 (by decide) ?_
          refine e_iast dX4_singRound_118 rfl u rfl (by omega) (by decide) (fun m8 hm8 => ?_)
          refine e_iinc (v := nI (u + 1)) (L' := [some (.ref 98), some (.int (nI d)), some (.int (nI o)), some (.int (nI n)), some (.int (nI w)), some (.int (nI k)), some (.int (nI (u + 1))), some (.int ((nI k) - (nI (u * d)))), some (.int 7)]) dX4_singRound_119 rfl (j_inc rfl) (by decide) (jnl_at (i := 5) rfl) rfl ?_
          refine e_goto 44 dX4_singRound_122 (by decide) ?_
          refine e_weak [some (.ref 98), some (.int (nI d)), some (.int (nI o)), some (.int (nI n)), some (.int (nI w)), some (.int (nI k)), some (.int (nI (u + 1))), none, none] (by simp [jle]) ?_
          refine e_start rfl ?_ ih2
          rw [hm8, hmb, jup_s, jup_jup]
          refine congrArg (jup mr 106) (cpy_s0' ?_)
          rw [Nat.zero_add]
          unfold ntR
          rw [if_pos hk2, q44]
          first | rw [if_pos q5] | rw [if_neg q5]
        · refine e_if_eq 116 dX4_singRound_108 (by decide) (fun c108 => ?_) (fun h => absurd h (by decide))
          rw [hmb, jup_n _ _ (by decide), e102] at q5
          refine e_bipush (v := 7) dX4_singRound_116 rfl ?_
          refine e_iast dX4_singRound_118 rfl u rfl (by omega) (by decide) (fun m9 hm9 => ?_)
          refine e_iinc (v := nI (u + 1)) (L' := [some (.ref 98), some (.int (nI d)), some (.int (nI o)), some (.int (nI n)), some (.int (nI w)), some (.int (nI k)), some (.int (nI (u + 1))), some (.int ((nI k) - (nI (u * d)))), some (.int 7)]) dX4_singRound_119 rfl (j_inc rfl) (by decide) (jnl_at (i := 5) rfl) rfl ?_
          refine e_goto 44 dX4_singRound_122 (by decide) ?_
          refine e_weak [some (.ref 98), some (.int (nI d)), some (.int (nI o)), some (.int (nI n)), some (.int (nI w)), some (.int (nI k)), some (.int (nI (u + 1))), none, none] (by simp [jle]) ?_
          refine e_start rfl ?_ ih2
          rw [hm9, hmb, jup_s, jup_jup]
          refine congrArg (jup mr 106) (cpy_s0' ?_)
          rw [Nat.zero_add]
          unfold ntR
          rw [if_pos hk2, q44]
          first | rw [if_pos q5] | rw [if_neg q5]
