theorem j_ite {α : Sort _} (c : Prop) [Decidable c] (a b : α) : (if c then a else b) = a ∨ (if c then a else b) = b := by
  by_cases h : c
  · exact Or.inl (if_pos h)
  · exact Or.inr (if_neg h)
def bestR (st tn : Nat → Int32) (n V P : Nat) : Nat → Nat × Int32
  | 0 => (0, -1)
  | d + 1 => if (bestR st tn n V P d).2 < nI (popc (setN (roundB st tn d n V P (rlen d n V)) P)) then (d, nI (popc (setN (roundB st tn d n V P (rlen d n V)) P))) else bestR st tn n V P d
theorem set_256 {st : Nat → Int32} {P : Nat} (hP : P ≤ 5) : setN st P < 256 := Nat.lt_of_lt_of_le (setN_lt st P) (Nat.le_trans (Nat.pow_le_pow_right (by decide) (by omega : P ≤ 8)) (by decide))
/-- counts of modes, from above -/
def cntD (f : Nat → Bool) : Nat → Nat
  | 0 => 0
  | j + 1 => cntD f j + (if f (127 - j) = true then 1 else 0)
def lstD (f : Nat → Bool) : Nat → Int32
  | 0 => -1000000
  | j + 1 => if f (127 - j) = true then nI (127 - j) else lstD f j
def mdP (st tn : Nat → Int32) (s n V P p : Nat) (th : Int32) (mode : Nat) : Bool := decide (aloneB (upd st (21 + p) (nI mode)) s tn 0 V P n (36 + p) = th)
def shP (st tn : Nat → Int32) (d n V P p set : Nat) : Bool := decide (roundB (upd st (31 + p) (st (31 + p) &&& (nI set ^^^ (-1)))) tn d n V P (rlen d n V) (41 + p) = 1)
/-- the set of windows that is the best of the first k -/
def shB (st tn : Nat → Int32) (d n V P p : Nat) : Nat → Option Nat
  | 0 => none
  | k + 1 => if (nI k &&& (st (31 + p) ^^^ (-1)) = 0 ∧ (match shB st tn d n V P p k with | none => true | some b => decide (popc k < popc b)) = true) ∧ shP st tn d n V P p k = true then some k else shB st tn d n V P p k
def bI (b : Option Nat) : Int32 := match b with
  | none => -1
  | some k => nI k
theorem shB_lt {st tn : Nat → Int32} {d n V P p : Nat} : ∀ k b, shB st tn d n V P p k = some b → b < k
  | 0, b, h => by cases h
  | k + 1, b, h => by
    rcases (j_ite _ _ _ : shB st tn d n V P p (k + 1) = some k ∨ shB st tn d n V P p (k + 1) = shB st tn d n V P p k) with e | e
    · have := Option.some.inj (e.symm.trans h : some k = some b)
      omega
    · have := shB_lt k b (e.symm.trans h)
      omega
theorem j_and (a b : Nat) : nI a &&& nI b = nI (a &&& b) := by
  apply Int32.toBitVec_inj.mp
  rw [Int32.toBitVec_and]
  unfold nI
  show BitVec.ofNat 32 a &&& BitVec.ofNat 32 b = BitVec.ofNat 32 (a &&& b)
  apply BitVec.eq_of_toNat_eq
  rw [BitVec.toNat_and, BitVec.toNat_ofNat, BitVec.toNat_ofNat, BitVec.toNat_ofNat, Nat.and_mod_two_pow]
theorem jup_jup106 (m : jM) (f g X : Nat → Int32) : jup (jup (jup m 106 f) 106 g) 102 X = jup (jup m 106 g) 102 X := by rw [jup_jup]
theorem m_down (u : Nat) (h : u < 128) : (127 : Int32) - nI u = nI (127 - u) := pk_sub (a := 127) (by omega)
theorem jup_swp (m : jM) (f g X Y : Nat → Int32) : jup (jup (jup (jup m 106 f) 102 X) 106 g) 102 Y = jup (jup m 106 g) 102 Y := by
  rw [jup_cm _ (show (102 : Nat) ≠ 106 by decide), jup_jup, jup_jup]
theorem m_dec (u : Nat) (h : u < 128) : nI (127 - u) + (-1) = 127 - nI (u + 1) := co_dec (P := fun u => nI (127 - u) + (-1) = 127 - nI (u + 1)) (by decide +kernel) h
set_option maxHeartbeats 2000000 in
set_option maxRecDepth 20000 in
theorem s_ones (m : jM) (k : Nat) (hk : k < 256) : iX mX4_ones [.int (nI k)] m (fun v m1 => v = nI (popc k) ∧ m = m1) := by
  refine jX_of (L := [some (.int (nI k)), none, none]) 2 rfl rfl (by decide +kernel) rfl ?_
  refine e_iconst (v := 0) dX4_ones_0 rfl ?_
  refine e_istore_n (L' := [some (.int (nI k)), some (.int 0), none]) dX4_ones_1 (Nat.le_of_ble_eq_true rfl) (Nat.le_of_ble_eq_true rfl) (jnl_at (i := 0) rfl) rfl ?_
  refine e_iload_n dX4_ones_2 rfl ?_
  refine e_istore_n (L' := [some (.int (nI k)), some (.int 0), some (.int (nI k))]) dX4_ones_3 (Nat.le_of_ble_eq_true rfl) (Nat.le_of_ble_eq_true rfl) (jnl_at (i := 1) rfl) rfl ?_
  refine e_loopM (σ := Nat × Nat) 4 (fun s => [some (.int (nI k)), some (.int (nI s.1)), some (.int (nI s.2))]) (fun s mm => mm = m ∧ s.2 < 256 ∧ s.1 + popc s.2 = popc k) (fun s => s.2) (0, k) rfl ⟨rfl, hk, Nat.zero_add _⟩ ?_
  rintro ⟨a, b⟩ mm ⟨rfl, hb, hab⟩ ih
  show jE _ _ 4 [some (.int (nI k)), some (.int (nI a)), some (.int (nI b))] [] mm
  dsimp only at hb hab
  refine e_iload_n dX4_ones_4 rfl ?_
  refine e_if_eq 20 dX4_ones_5 (by decide) (fun c5 => ?_) (fun c5 => ?_)
  · have hb0 : b = 0 := (j_eq (a := b) (b := 0) (by omega) (by decide)).mp c5
    subst hb0
    refine e_iload_n dX4_ones_20 rfl ?_
    exact e_iret dX4_ones_21 rfl ⟨by rw [← hab]; rfl, rfl⟩
  · have hb0 : ¬ b = 0 := fun q => c5 (by rw [q]; rfl)
    rcases pop_step b hb with q | ⟨q1, q2⟩
    · exact absurd q hb0
    refine e_iinc (v := nI (a + 1)) (L' := [some (.int (nI k)), some (.int (nI (a + 1))), some (.int (nI b))]) dX4_ones_8 rfl (j_inc rfl) (by decide) (jnl_at (i := 0) rfl) rfl ?_
    refine e_iload_n dX4_ones_11 rfl ?_
    refine e_iload_n dX4_ones_12 rfl ?_
    refine e_iconst (v := 1) dX4_ones_13 rfl ?_
    refine e_isub dX4_ones_14 ?_
    refine e_iand dX4_ones_15 ?_
    rw [show nI b &&& (nI b - 1) = nI (b &&& (b - 1)) from by rw [show nI b - 1 = nI (b - 1) from pk_sub (a := b) (b := 1) (by omega)]; exact j_and b (b - 1)]
    refine e_istore_n (L' := [some (.int (nI k)), some (.int (nI (a + 1))), some (.int (nI (b &&& (b - 1))))]) dX4_ones_16 (Nat.le_of_ble_eq_true rfl) (Nat.le_of_ble_eq_true rfl) (jnl_at (i := 1) rfl) rfl ?_
    refine e_goto 4 dX4_ones_17 (by decide) ?_
    exact ih (a + 1, b &&& (b - 1)) mm q1 ⟨rfl, by show b &&& (b - 1) < 256; omega, by show a + 1 + popc (b &&& (b - 1)) = popc k; omega⟩

set_option maxHeartbeats 2000000 in
set_option maxRecDepth 20000 in
theorem s_Dround_s (m : jM) (x y i z : Int32) (ht : m 98 4 = 0) : iX mX4_round [.ref 98, .int x, .int y, .int i, .int z] m (fun v m1 => v = -1000002 ∧ m = m1) := by
  refine jX_of (L := [some (.ref 98), some (.int x), some (.int y), some (.int i), some (.int z), none, none]) 2 rfl rfl (by decide +kernel) rfl ?_
  refine e_aload_n dX4_round_0 rfl ?_
  refine e_getI dX4_round_1 lkX4_142 rfl rfl ?_
  rw [show m 98 4 = 0 from ht]
  refine e_if_ne 10 dX4_round_4 (by decide) (fun h => absurd rfl h) (fun c4 => ?_)
  refine e_ldc dX4_round_7 kkX4_157 ?_
  exact e_iret dX4_round_9 rfl (⟨rfl, rfl⟩)

set_option maxHeartbeats 2000000 in
set_option maxRecDepth 20000 in
theorem s_Dround_b (m : jM) (x y i z : Int32) (ht : m 98 4 = 1) (hb : ¬ (inN x 9 ∧ inN y 8 ∧ inN z 17)) : iX mX4_round [.ref 98, .int x, .int y, .int i, .int z] m (fun v m1 => v = -1000001 ∧ m = m1) := by
  refine jX_of (L := [some (.ref 98), some (.int x), some (.int y), some (.int i), some (.int z), none, none]) 2 rfl rfl (by decide +kernel) rfl ?_
  refine e_aload_n dX4_round_0 rfl ?_
  refine e_getI dX4_round_1 lkX4_142 rfl rfl ?_
  rw [show m 98 4 = 1 from ht]
  refine e_if_ne 10 dX4_round_4 (by decide) (fun c4 => ?_) (fun h => absurd h (by decide))
  refine e_iload_n dX4_round_10 rfl ?_
  refine e_i2l dX4_round_11 ?_
  refine e_lconst (v := 0) dX4_round_12 rfl ?_
  refine e_ldc2 dX4_round_13 kkX4_196 ?_
  refine e_callSi (n := 3) mX4_in [.long (Int32.toInt64 x), .long 0, .long (8)] dX4_round_16 ckX4_60 rfl (by decide +kernel) rfl rfl (Nat.le_of_ble_eq_true rfl) ⟨Nat.zero_le _, Nat.zero_le _⟩ (s_inN x (8) 9 (by decide) (by decide) m) (fun v16 m1 hm1 => ?_)
  rcases hm1 with ⟨rfl, ⟨rfl, q⟩ | ⟨rfl, q⟩⟩
  · refine e_if_eq 42 dX4_round_19 (by decide) (fun h => absurd h (by decide)) (fun c19 => ?_)
    refine e_iload_n dX4_round_22 rfl ?_
    refine e_callSi (n := 1) mX4_isRow [.int y] dX4_round_23 ckX4_64 rfl (by decide +kernel) rfl rfl (Nat.le_of_ble_eq_true rfl) ⟨Nat.zero_le _, Nat.zero_le _⟩ (s_rowN y m) (fun v23 m2 hm2 => ?_)
    rcases hm2 with ⟨rfl, ⟨rfl, q1⟩ | ⟨rfl, q1⟩⟩
    · refine e_if_eq 42 dX4_round_26 (by decide) (fun h => absurd h (by decide)) (fun c26 => ?_)
      refine e_iload dX4_round_29 rfl ?_
      refine e_i2l dX4_round_31 ?_
      refine e_lconst (v := 0) dX4_round_32 rfl ?_
      refine e_ldc2 dX4_round_33 kkX4_180 ?_
      refine e_callSi (n := 3) mX4_in [.long (Int32.toInt64 z), .long 0, .long (16)] dX4_round_36 ckX4_60 rfl (by decide +kernel) rfl rfl (Nat.le_of_ble_eq_true rfl) ⟨Nat.zero_le _, Nat.zero_le _⟩ (s_inN z (16) 17 (by decide) (by decide) m) (fun v36 m3 hm3 => ?_)
      rcases hm3 with ⟨rfl, ⟨rfl, q2⟩ | ⟨rfl, q2⟩⟩
      · exact False.elim (hb ⟨q, q1, q2⟩)
      · refine e_if_ne 45 dX4_round_39 (by decide) (fun h => absurd h (by decide)) (fun c39 => ?_)
        refine e_ldc dX4_round_42 kkX4_70 ?_
        exact e_iret dX4_round_44 rfl (⟨rfl, rfl⟩)
    · refine e_if_eq 42 dX4_round_26 (by decide) (fun c26 => ?_) (fun h => absurd h (by decide))
      refine e_ldc dX4_round_42 kkX4_70 ?_
      exact e_iret dX4_round_44 rfl (⟨rfl, rfl⟩)
  · refine e_if_eq 42 dX4_round_19 (by decide) (fun c19 => ?_) (fun h => absurd h (by decide))
    refine e_ldc dX4_round_42 kkX4_70 ?_
    exact e_iret dX4_round_44 rfl (⟨rfl, rfl⟩)

set_option maxHeartbeats 2000000 in
set_option maxRecDepth 20000 in
theorem s_Dround_f (m : jM) (ht : m 98 4 = 1) (d : Nat) (hd : d ≤ 8) (r : Nat) (hr : r < 8) (n : Nat) (hn : n ≤ 16) (i : Int32) (hsz : szOK m r) (htn : ¬ tuneOK m r i n) : iX mX4_round [.ref 98, .int (nI d), .int (nI r), .int i, .int (nI n)] m (fun v m1 => v = lackV m r i n ∧ lackM m r i n = m1) := by
  refine jX_of (L := [some (.ref 98), some (.int (nI d)), some (.int (nI r)), some (.int i), some (.int (nI n)), none, none]) 2 rfl rfl (by decide +kernel) rfl ?_
  refine e_aload_n dX4_round_0 rfl ?_
  refine e_getI dX4_round_1 lkX4_142 rfl rfl ?_
  rw [show m 98 4 = 1 from ht]
  refine e_if_ne 10 dX4_round_4 (by decide) (fun c4 => ?_) (fun h => absurd h (by decide))
  refine e_iload_n dX4_round_10 rfl ?_
  refine e_i2l dX4_round_11 ?_
  refine e_lconst (v := 0) dX4_round_12 rfl ?_
  refine e_ldc2 dX4_round_13 kkX4_196 ?_
  refine e_callSi (n := 3) mX4_in [.long (Int32.toInt64 (nI d)), .long 0, .long (8)] dX4_round_16 ckX4_60 rfl (by decide +kernel) rfl rfl (Nat.le_of_ble_eq_true rfl) ⟨Nat.zero_le _, Nat.zero_le _⟩ (s_inN (nI d) (8) 9 (by decide) (by decide) m) (fun v16 m1 hm1 => ?_)
  rcases hm1 with ⟨rfl, ⟨rfl, q⟩ | ⟨rfl, q⟩⟩
  · refine e_if_eq 42 dX4_round_19 (by decide) (fun h => absurd h (by decide)) (fun c19 => ?_)
    refine e_iload_n dX4_round_22 rfl ?_
    refine e_callSi (n := 1) mX4_isRow [.int (nI r)] dX4_round_23 ckX4_64 rfl (by decide +kernel) rfl rfl (Nat.le_of_ble_eq_true rfl) ⟨Nat.zero_le _, Nat.zero_le _⟩ (s_rowN (nI r) m) (fun v23 m2 hm2 => ?_)
    rcases hm2 with ⟨rfl, ⟨rfl, q1⟩ | ⟨rfl, q1⟩⟩
    · refine e_if_eq 42 dX4_round_26 (by decide) (fun h => absurd h (by decide)) (fun c26 => ?_)
      refine e_iload dX4_round_29 rfl ?_
      refine e_i2l dX4_round_31 ?_
      refine e_lconst (v := 0) dX4_round_32 rfl ?_
      refine e_ldc2 dX4_round_33 kkX4_180 ?_
      refine e_callSi (n := 3) mX4_in [.long (Int32.toInt64 (nI n)), .long 0, .long (16)] dX4_round_36 ckX4_60 rfl (by decide +kernel) rfl rfl (Nat.le_of_ble_eq_true rfl) ⟨Nat.zero_le _, Nat.zero_le _⟩ (s_inN (nI n) (16) 17 (by decide) (by decide) m) (fun v36 m3 hm3 => ?_)
      rcases hm3 with ⟨rfl, ⟨rfl, q2⟩ | ⟨rfl, q2⟩⟩
      · refine e_if_ne 45 dX4_round_39 (by decide) (fun c39 => ?_) (fun h => absurd h (by decide))
        refine e_aload_n dX4_round_45 rfl ?_
        refine e_iload_n dX4_round_46 rfl ?_
        refine e_iload_n dX4_round_47 rfl ?_
        refine e_iload dX4_round_48 rfl ?_
        refine e_callVi (n := 3) mX4_lacks [.int (nI r), .int i, .int (nI n)] dX4_round_50 ckX4_182 rfl (by decide +kernel) rfl rfl rfl rfl (Nat.le_of_ble_eq_true rfl) ⟨Nat.zero_le _, Nat.zero_le _⟩ (s_lacksF m r hr n hn i hsz htn) (fun v50 ml hml => ?_)
        obtain ⟨rfl, hlk⟩ := hml
        refine e_istore (L' := [some (.ref 98), some (.int (nI d)), some (.int (nI r)), some (.int i), some (.int (nI n)), some (.int (lackV m r i n)), none]) dX4_round_53 (Nat.le_of_ble_eq_true rfl) (Nat.le_of_ble_eq_true rfl) (jnl_at (i := 4) rfl) rfl ?_
        refine e_iload dX4_round_55 rfl ?_
        refine e_if_ge 63 dX4_round_57 (by decide) (fun h => absurd (lackV_neg m r i n) (Int32.not_lt.mpr h)) (fun c57 => ?_)
        refine e_iload dX4_round_60 rfl ?_
        exact e_iret dX4_round_62 rfl (⟨rfl, hlk⟩)
      · exact False.elim (q2 (inN_nI (by decide) (by omega)))
    · exact False.elim (q1 (inN_nI (by decide) hr))
  · exact False.elim (q (inN_nI (by decide) (by omega)))

set_option maxHeartbeats 2000000 in
set_option maxRecDepth 20000 in
theorem s_Dround (m : jM) (V : Nat) (hV : V ≤ 3) (h1 : m 102 1 = nI V) (P : Nat) (hP : P ≤ 5) (h2 : m 102 2 = nI P) (ht : m 98 4 = 1) (d : Nat) (hd : d ≤ 8) (r : Nat) (hr : r < 8) (n : Nat) (hn : n ≤ 16) (i k : Nat) (hk : k ≤ 40) (hsz : m 100 r = nI k) (hik : i + n ≤ k) (hgd : goodB (m 101) (40 * r + i) n = true) : iX mX4_round [.ref 98, .int (nI d), .int (nI r), .int (nI i), .int (nI n)] m (fun v m1 => v = setB (roundB (m 102) (fun j => m 101 (40 * r + i + j)) d n V P (rlen d n V)) P ∧ ∃ f, jst (jup (asdM m) 106 f) 98 3 0 = m1) := by
  refine jX_of (L := [some (.ref 98), some (.int (nI d)), some (.int (nI r)), some (.int (nI i)), some (.int (nI n)), none, none]) 2 rfl rfl (by decide +kernel) rfl ?_
  refine e_aload_n dX4_round_0 rfl ?_
  refine e_getI dX4_round_1 lkX4_142 rfl rfl ?_
  rw [show m 98 4 = 1 from ht]
  refine e_if_ne 10 dX4_round_4 (by decide) (fun c4 => ?_) (fun h => absurd h (by decide))
  refine e_iload_n dX4_round_10 rfl ?_
  refine e_i2l dX4_round_11 ?_
  refine e_lconst (v := 0) dX4_round_12 rfl ?_
  refine e_ldc2 dX4_round_13 kkX4_196 ?_
  refine e_callSi (n := 3) mX4_in [.long (Int32.toInt64 (nI d)), .long 0, .long (8)] dX4_round_16 ckX4_60 rfl (by decide +kernel) rfl rfl (Nat.le_of_ble_eq_true rfl) ⟨Nat.zero_le _, Nat.zero_le _⟩ (s_inN (nI d) (8) 9 (by decide) (by decide) m) (fun v16 m1 hm1 => ?_)
  rcases hm1 with ⟨rfl, ⟨rfl, q⟩ | ⟨rfl, q⟩⟩
  · refine e_if_eq 42 dX4_round_19 (by decide) (fun h => absurd h (by decide)) (fun c19 => ?_)
    refine e_iload_n dX4_round_22 rfl ?_
    refine e_callSi (n := 1) mX4_isRow [.int (nI r)] dX4_round_23 ckX4_64 rfl (by decide +kernel) rfl rfl (Nat.le_of_ble_eq_true rfl) ⟨Nat.zero_le _, Nat.zero_le _⟩ (s_rowN (nI r) m) (fun v23 m2 hm2 => ?_)
    rcases hm2 with ⟨rfl, ⟨rfl, q1⟩ | ⟨rfl, q1⟩⟩
    · refine e_if_eq 42 dX4_round_26 (by decide) (fun h => absurd h (by decide)) (fun c26 => ?_)
      refine e_iload dX4_round_29 rfl ?_
      refine e_i2l dX4_round_31 ?_
      refine e_lconst (v := 0) dX4_round_32 rfl ?_
      refine e_ldc2 dX4_round_33 kkX4_180 ?_
      refine e_callSi (n := 3) mX4_in [.long (Int32.toInt64 (nI n)), .long 0, .long (16)] dX4_round_36 ckX4_60 rfl (by decide +kernel) rfl rfl (Nat.le_of_ble_eq_true rfl) ⟨Nat.zero_le _, Nat.zero_le _⟩ (s_inN (nI n) (16) 17 (by decide) (by decide) m) (fun v36 m3 hm3 => ?_)
      rcases hm3 with ⟨rfl, ⟨rfl, q2⟩ | ⟨rfl, q2⟩⟩
      · refine e_if_ne 45 dX4_round_39 (by decide) (fun c39 => ?_) (fun h => absurd h (by decide))
        refine e_aload_n dX4_round_45 rfl ?_
        refine e_iload_n dX4_round_46 rfl ?_
        refine e_iload_n dX4_round_47 rfl ?_
        refine e_iload dX4_round_48 rfl ?_
        refine e_callVi (n := 3) mX4_lacks [.int (nI r), .int (nI i), .int (nI n)] dX4_round_50 ckX4_182 rfl (by decide +kernel) rfl rfl rfl rfl (Nat.le_of_ble_eq_true rfl) ⟨Nat.zero_le _, Nat.zero_le _⟩ (s_lacksT m r hr n hn i k hk hsz hik hgd) (fun v50 m4 hm4 => ?_)
        obtain ⟨rfl, rfl⟩ := hm4
        refine e_istore (L' := [some (.ref 98), some (.int (nI d)), some (.int (nI r)), some (.int (nI i)), some (.int (nI n)), some (.int 0), none]) dX4_round_53 (Nat.le_of_ble_eq_true rfl) (Nat.le_of_ble_eq_true rfl) (jnl_at (i := 4) rfl) rfl ?_
        refine e_iload dX4_round_55 rfl ?_
        refine e_if_ge 63 dX4_round_57 (by decide) (fun c57 => ?_) (fun h => absurd h (by decide))
        refine e_aload_n dX4_round_63 rfl ?_
        refine e_callVv (n := 0) mX4_putAside [] dX4_round_64 ckX4_186 rfl (by decide +kernel) rfl rfl rfl rfl (Nat.le_of_ble_eq_true rfl) ⟨Nat.zero_le _, Nat.zero_le _⟩ (s_putAside m) (fun mp hmp => ?_)
        have g102 : mp 102 = m 102 := by rw [← hmp]; exact jup_n _ _ (by decide)
        have g101 : mp 101 = m 101 := by rw [← hmp]; exact jup_n _ _ (by decide)
        have gv1 := h1
        have gv2 := h2
        refine e_aload_n dX4_round_67 rfl ?_
        refine e_iload_n dX4_round_68 rfl ?_
        refine e_bipush (v := 40) dX4_round_69 rfl ?_
        refine e_iload_n dX4_round_71 rfl ?_
        refine e_imul dX4_round_72 ?_
        refine e_iload_n dX4_round_73 rfl ?_
        refine e_iadd dX4_round_74 ?_
        rw [show (40 * (nI r)) + (nI i) = nI ((40 * r) + i) from (j_add (j_mul rfl rfl) rfl)]
        refine e_iload dX4_round_75 rfl ?_
        refine e_callVv (n := 3) mX4_singRound [.int (nI d), .int (nI ((40 * r) + i)), .int (nI n)] dX4_round_77 ckX4_198 rfl (by decide +kernel) rfl rfl rfl rfl (Nat.le_of_ble_eq_true rfl) ⟨Nat.zero_le _, Nat.zero_le _⟩ (s_singRound mp V hV (by rw [g102]; exact gv1) P hP (by rw [g102]; exact gv2) d (40 * r + i) n hd hn (by omega)) (fun ms hms => ?_)
        obtain ⟨f2, hms⟩ := hms
        have e102 : ms 102 = roundB (m 102) (fun j => m 101 (40 * r + i + j)) d n V P (rlen d n V) := by rw [hms, jup_s, g102, g101]
        
        refine e_aload_n dX4_round_80 rfl ?_
        refine e_callVi (n := 0) mX4_setPans [] dX4_round_81 ckX4_167 rfl (by decide +kernel) rfl rfl rfl rfl (Nat.le_of_ble_eq_true rfl) ⟨Nat.zero_le _, Nat.zero_le _⟩ (s_setPans ms P hP (by rw [e102]; exact (roundB_lo hV (by omega) (by decide) _).trans h2)) (fun v81 m7 hm7 => ?_)
        obtain ⟨rfl, rfl⟩ := hm7
        refine e_istore (L' := [some (.ref 98), some (.int (nI d)), some (.int (nI r)), some (.int (nI i)), some (.int (nI n)), some (.int 0), some (.int (setB (ms 102) P))]) dX4_round_84 (Nat.le_of_ble_eq_true rfl) (Nat.le_of_ble_eq_true rfl) (jnl_at (i := 5) rfl) rfl ?_
        refine e_aload_n dX4_round_86 rfl ?_
        refine e_callVv (n := 0) mX4_takeBack [] dX4_round_87 ckX4_193 rfl (by decide +kernel) rfl rfl rfl rfl (Nat.le_of_ble_eq_true rfl) ⟨Nat.zero_le _, Nat.zero_le _⟩ (s_takeBack ms) (fun mt hmt => ?_)
        refine e_aload_n dX4_round_90 rfl ?_
        refine e_iload dX4_round_91 rfl ?_
        refine e_callVi (n := 1) mX4_well [.int (setB (ms 102) P)] dX4_round_93 ckX4_75 rfl (by decide +kernel) rfl rfl rfl rfl (Nat.le_of_ble_eq_true rfl) ⟨Nat.zero_le _, Nat.zero_le _⟩ (s_well (setB (ms 102) P) mt) (fun v93 mw hmw => ?_)
        obtain ⟨rfl, hw⟩ := hmw
        exact e_iret dX4_round_96 rfl (⟨by rw [e102], f2, by rw [← hw, ← hmt, hms, g102, g101, ← hmp]; exact congrArg (fun z => jst z 98 3 0) (bak_ex m f2 _ (fun j hj => roundB_hi hV hP hj _)).symm⟩)
      · exact False.elim (q2 (inN_nI (by decide) (by omega)))
    · exact False.elim (q1 (inN_nI (by decide) hr))
  · exact False.elim (q (inN_nI (by decide) (by omega)))

set_option maxHeartbeats 2000000 in
set_option maxRecDepth 20000 in
theorem s_Dbest_s (m : jM) (y i z w : Int32) (ht : m 98 4 = 0) : iX mX4_bestRound [.ref 98, .int y, .int i, .int z, .int w] m (fun v m1 => v = -1000002 ∧ m = m1) := by
  refine jX_of (L := [some (.ref 98), some (.int y), some (.int i), some (.int z), some (.int w), none, none, none, none, none]) 5 rfl rfl (by decide +kernel) rfl ?_
  refine e_aload_n dX4_bestRound_0 rfl ?_
  refine e_getI dX4_bestRound_1 lkX4_142 rfl rfl ?_
  rw [show m 98 4 = 0 from ht]
  refine e_if_ne 10 dX4_bestRound_4 (by decide) (fun h => absurd rfl h) (fun c4 => ?_)
  refine e_ldc dX4_bestRound_7 kkX4_157 ?_
  exact e_iret dX4_bestRound_9 rfl (⟨rfl, rfl⟩)

set_option maxHeartbeats 2000000 in
set_option maxRecDepth 20000 in
theorem s_Dbest_b (m : jM) (y i z w : Int32) (ht : m 98 4 = 1) (hb : ¬ (inN y 8 ∧ inN z 17 ∧ inN w 2)) : iX mX4_bestRound [.ref 98, .int y, .int i, .int z, .int w] m (fun v m1 => v = -1000001 ∧ m = m1) := by
  refine jX_of (L := [some (.ref 98), some (.int y), some (.int i), some (.int z), some (.int w), none, none, none, none, none]) 5 rfl rfl (by decide +kernel) rfl ?_
  refine e_aload_n dX4_bestRound_0 rfl ?_
  refine e_getI dX4_bestRound_1 lkX4_142 rfl rfl ?_
  rw [show m 98 4 = 1 from ht]
  refine e_if_ne 10 dX4_bestRound_4 (by decide) (fun c4 => ?_) (fun h => absurd h (by decide))
  refine e_iload_n dX4_bestRound_10 rfl ?_
  refine e_callSi (n := 1) mX4_isRow [.int y] dX4_bestRound_11 ckX4_64 rfl (by decide +kernel) rfl rfl (Nat.le_of_ble_eq_true rfl) ⟨Nat.zero_le _, Nat.zero_le _⟩ (s_rowN y m) (fun v11 m1 hm1 => ?_)
  rcases hm1 with ⟨rfl, ⟨rfl, q⟩ | ⟨rfl, q⟩⟩
  · refine e_if_eq 40 dX4_bestRound_14 (by decide) (fun h => absurd h (by decide)) (fun c14 => ?_)
    refine e_iload_n dX4_bestRound_17 rfl ?_
    refine e_i2l dX4_bestRound_18 ?_
    refine e_lconst (v := 0) dX4_bestRound_19 rfl ?_
    refine e_ldc2 dX4_bestRound_20 kkX4_180 ?_
    refine e_callSi (n := 3) mX4_in [.long (Int32.toInt64 z), .long 0, .long (16)] dX4_bestRound_23 ckX4_60 rfl (by decide +kernel) rfl rfl (Nat.le_of_ble_eq_true rfl) ⟨Nat.zero_le _, Nat.zero_le _⟩ (s_inN z (16) 17 (by decide) (by decide) m) (fun v23 m2 hm2 => ?_)
    rcases hm2 with ⟨rfl, ⟨rfl, q1⟩ | ⟨rfl, q1⟩⟩
    · refine e_if_eq 40 dX4_bestRound_26 (by decide) (fun h => absurd h (by decide)) (fun c26 => ?_)
      refine e_iload dX4_bestRound_29 rfl ?_
      refine e_i2l dX4_bestRound_31 ?_
      refine e_lconst (v := 0) dX4_bestRound_32 rfl ?_
      refine e_lconst (v := 1) dX4_bestRound_33 rfl ?_
      refine e_callSi (n := 3) mX4_in [.long (Int32.toInt64 w), .long 0, .long 1] dX4_bestRound_34 ckX4_60 rfl (by decide +kernel) rfl rfl (Nat.le_of_ble_eq_true rfl) ⟨Nat.zero_le _, Nat.zero_le _⟩ (s_inN w 1 2 (by decide) (by decide) m) (fun v34 m3 hm3 => ?_)
      rcases hm3 with ⟨rfl, ⟨rfl, q2⟩ | ⟨rfl, q2⟩⟩
      · exact False.elim (hb ⟨q, q1, q2⟩)
      · refine e_if_ne 43 dX4_bestRound_37 (by decide) (fun h => absurd h (by decide)) (fun c37 => ?_)
        refine e_ldc dX4_bestRound_40 kkX4_70 ?_
        exact e_iret dX4_bestRound_42 rfl (⟨rfl, rfl⟩)
    · refine e_if_eq 40 dX4_bestRound_26 (by decide) (fun c26 => ?_) (fun h => absurd h (by decide))
      refine e_ldc dX4_bestRound_40 kkX4_70 ?_
      exact e_iret dX4_bestRound_42 rfl (⟨rfl, rfl⟩)
  · refine e_if_eq 40 dX4_bestRound_14 (by decide) (fun c14 => ?_) (fun h => absurd h (by decide))
    refine e_ldc dX4_bestRound_40 kkX4_70 ?_
    exact e_iret dX4_bestRound_42 rfl (⟨rfl, rfl⟩)

set_option maxHeartbeats 2000000 in
set_option maxRecDepth 20000 in
theorem s_Dbest_f (m : jM) (ht : m 98 4 = 1) (r : Nat) (hr : r < 8) (n : Nat) (hn : n ≤ 16) (w : Int32) (hw2 : inN w 2) (i : Int32) (hsz : szOK m r) (htn : ¬ tuneOK m r i n) : iX mX4_bestRound [.ref 98, .int (nI r), .int i, .int (nI n), .int w] m (fun v m1 => v = lackV m r i n ∧ lackM m r i n = m1) := by
  refine jX_of (L := [some (.ref 98), some (.int (nI r)), some (.int i), some (.int (nI n)), some (.int w), none, none, none, none, none]) 5 rfl rfl (by decide +kernel) rfl ?_
  refine e_aload_n dX4_bestRound_0 rfl ?_
  refine e_getI dX4_bestRound_1 lkX4_142 rfl rfl ?_
  rw [show m 98 4 = 1 from ht]
  refine e_if_ne 10 dX4_bestRound_4 (by decide) (fun c4 => ?_) (fun h => absurd h (by decide))
  refine e_iload_n dX4_bestRound_10 rfl ?_
  refine e_callSi (n := 1) mX4_isRow [.int (nI r)] dX4_bestRound_11 ckX4_64 rfl (by decide +kernel) rfl rfl (Nat.le_of_ble_eq_true rfl) ⟨Nat.zero_le _, Nat.zero_le _⟩ (s_rowN (nI r) m) (fun v11 m1 hm1 => ?_)
  rcases hm1 with ⟨rfl, ⟨rfl, q1⟩ | ⟨rfl, q1⟩⟩
  · refine e_if_eq 40 dX4_bestRound_14 (by decide) (fun h => absurd h (by decide)) (fun c14 => ?_)
    refine e_iload_n dX4_bestRound_17 rfl ?_
    refine e_i2l dX4_bestRound_18 ?_
    refine e_lconst (v := 0) dX4_bestRound_19 rfl ?_
    refine e_ldc2 dX4_bestRound_20 kkX4_180 ?_
    refine e_callSi (n := 3) mX4_in [.long (Int32.toInt64 (nI n)), .long 0, .long (16)] dX4_bestRound_23 ckX4_60 rfl (by decide +kernel) rfl rfl (Nat.le_of_ble_eq_true rfl) ⟨Nat.zero_le _, Nat.zero_le _⟩ (s_inN (nI n) (16) 17 (by decide) (by decide) m) (fun v23 m2 hm2 => ?_)
    rcases hm2 with ⟨rfl, ⟨rfl, q2⟩ | ⟨rfl, q2⟩⟩
    · refine e_if_eq 40 dX4_bestRound_26 (by decide) (fun h => absurd h (by decide)) (fun c26 => ?_)
      refine e_iload dX4_bestRound_29 rfl ?_
      refine e_i2l dX4_bestRound_31 ?_
      refine e_lconst (v := 0) dX4_bestRound_32 rfl ?_
      refine e_lconst (v := 1) dX4_bestRound_33 rfl ?_
      refine e_callSi (n := 3) mX4_in [.long (Int32.toInt64 w), .long 0, .long 1] dX4_bestRound_34 ckX4_60 rfl (by decide +kernel) rfl rfl (Nat.le_of_ble_eq_true rfl) ⟨Nat.zero_le _, Nat.zero_le _⟩ (s_inN w 1 2 (by decide) (by decide) m) (fun v34 m3 hm3 => ?_)
      rcases hm3 with ⟨rfl, ⟨rfl, q3⟩ | ⟨rfl, q3⟩⟩
      · refine e_if_ne 43 dX4_bestRound_37 (by decide) (fun c37 => ?_) (fun h => absurd h (by decide))
        refine e_aload_n dX4_bestRound_43 rfl ?_
        refine e_iload_n dX4_bestRound_44 rfl ?_
        refine e_iload_n dX4_bestRound_45 rfl ?_
        refine e_iload_n dX4_bestRound_46 rfl ?_
        refine e_callVi (n := 3) mX4_lacks [.int (nI r), .int i, .int (nI n)] dX4_bestRound_47 ckX4_182 rfl (by decide +kernel) rfl rfl rfl rfl (Nat.le_of_ble_eq_true rfl) ⟨Nat.zero_le _, Nat.zero_le _⟩ (s_lacksF m r hr n hn i hsz htn) (fun v47 ml hml => ?_)
        obtain ⟨rfl, hlk⟩ := hml
        refine e_istore (L' := [some (.ref 98), some (.int (nI r)), some (.int i), some (.int (nI n)), some (.int w), some (.int (lackV m r i n)), none, none, none, none]) dX4_bestRound_50 (Nat.le_of_ble_eq_true rfl) (Nat.le_of_ble_eq_true rfl) (jnl_at (i := 4) rfl) rfl ?_
        refine e_iload dX4_bestRound_52 rfl ?_
        refine e_if_ge 60 dX4_bestRound_54 (by decide) (fun h => absurd (lackV_neg m r i n) (Int32.not_lt.mpr h)) (fun c54 => ?_)
        refine e_iload dX4_bestRound_57 rfl ?_
        exact e_iret dX4_bestRound_59 rfl (⟨rfl, hlk⟩)
      · exact False.elim (q3 hw2)
    · exact False.elim (q2 (inN_nI (by decide) (by omega)))
  · exact False.elim (q1 (inN_nI (by decide) hr))

set_option maxHeartbeats 2000000 in
set_option maxRecDepth 20000 in
theorem s_Dbest (m : jM) (V : Nat) (hV : V ≤ 3) (h1 : m 102 1 = nI V) (P : Nat) (hP : P ≤ 5) (h2 : m 102 2 = nI P) (h01 : d01 (m 102) P) (ht : m 98 4 = 1) (r : Nat) (hr : r < 8) (n : Nat) (hn : n ≤ 16) (w : Int32) (hw2 : inN w 2) (i k : Nat) (hk : k ≤ 40) (hsz : m 100 r = nI k) (hik : i + n ≤ k) (hgd : goodB (m 101) (40 * r + i) n = true) : iX mX4_bestRound [.ref 98, .int (nI r), .int (nI i), .int (nI n), .int w] m (fun v m1 => v = (if w = 0 then nI (bestR (m 102) (fun j => m 101 (40 * r + i + j)) n V P 9).1 else (bestR (m 102) (fun j => m 101 (40 * r + i + j)) n V P 9).2) ∧ ∃ f, jst (jup (asdM m) 106 f) 98 3 0 = m1) := by
  refine jX_of (L := [some (.ref 98), some (.int (nI r)), some (.int (nI i)), some (.int (nI n)), some (.int w), none, none, none, none, none]) 5 rfl rfl (by decide +kernel) rfl ?_
  refine e_aload_n dX4_bestRound_0 rfl ?_
  refine e_getI dX4_bestRound_1 lkX4_142 rfl rfl ?_
  rw [show m 98 4 = 1 from ht]
  refine e_if_ne 10 dX4_bestRound_4 (by decide) (fun c4 => ?_) (fun h => absurd h (by decide))
  refine e_iload_n dX4_bestRound_10 rfl ?_
  refine e_callSi (n := 1) mX4_isRow [.int (nI r)] dX4_bestRound_11 ckX4_64 rfl (by decide +kernel) rfl rfl (Nat.le_of_ble_eq_true rfl) ⟨Nat.zero_le _, Nat.zero_le _⟩ (s_rowN (nI r) m) (fun v11 m1 hm1 => ?_)
  rcases hm1 with ⟨rfl, ⟨rfl, q1⟩ | ⟨rfl, q1⟩⟩
  · refine e_if_eq 40 dX4_bestRound_14 (by decide) (fun h => absurd h (by decide)) (fun c14 => ?_)
    refine e_iload_n dX4_bestRound_17 rfl ?_
    refine e_i2l dX4_bestRound_18 ?_
    refine e_lconst (v := 0) dX4_bestRound_19 rfl ?_
    refine e_ldc2 dX4_bestRound_20 kkX4_180 ?_
    refine e_callSi (n := 3) mX4_in [.long (Int32.toInt64 (nI n)), .long 0, .long (16)] dX4_bestRound_23 ckX4_60 rfl (by decide +kernel) rfl rfl (Nat.le_of_ble_eq_true rfl) ⟨Nat.zero_le _, Nat.zero_le _⟩ (s_inN (nI n) (16) 17 (by decide) (by decide) m) (fun v23 m2 hm2 => ?_)
    rcases hm2 with ⟨rfl, ⟨rfl, q2⟩ | ⟨rfl, q2⟩⟩
    · refine e_if_eq 40 dX4_bestRound_26 (by decide) (fun h => absurd h (by decide)) (fun c26 => ?_)
      refine e_iload dX4_bestRound_29 rfl ?_
      refine e_i2l dX4_bestRound_31 ?_
      refine e_lconst (v := 0) dX4_bestRound_32 rfl ?_
      refine e_lconst (v := 1) dX4_bestRound_33 rfl ?_
      refine e_callSi (n := 3) mX4_in [.long (Int32.toInt64 w), .long 0, .long 1] dX4_bestRound_34 ckX4_60 rfl (by decide +kernel) rfl rfl (Nat.le_of_ble_eq_true rfl) ⟨Nat.zero_le _, Nat.zero_le _⟩ (s_inN w 1 2 (by decide) (by decide) m) (fun v34 m3 hm3 => ?_)
      rcases hm3 with ⟨rfl, ⟨rfl, q3⟩ | ⟨rfl, q3⟩⟩
      · refine e_if_ne 43 dX4_bestRound_37 (by decide) (fun c37 => ?_) (fun h => absurd h (by decide))
        refine e_aload_n dX4_bestRound_43 rfl ?_
        refine e_iload_n dX4_bestRound_44 rfl ?_
        refine e_iload_n dX4_bestRound_45 rfl ?_
        refine e_iload_n dX4_bestRound_46 rfl ?_
        refine e_callVi (n := 3) mX4_lacks [.int (nI r), .int (nI i), .int (nI n)] dX4_bestRound_47 ckX4_182 rfl (by decide +kernel) rfl rfl rfl rfl (Nat.le_of_ble_eq_true rfl) ⟨Nat.zero_le _, Nat.zero_le _⟩ (s_lacksT m r hr n hn i k hk hsz hik hgd) (fun v47 m4 hm4 => ?_)
        obtain ⟨rfl, rfl⟩ := hm4
        refine e_istore (L' := [some (.ref 98), some (.int (nI r)), some (.int (nI i)), some (.int (nI n)), some (.int w), some (.int 0), none, none, none, none]) dX4_bestRound_50 (Nat.le_of_ble_eq_true rfl) (Nat.le_of_ble_eq_true rfl) (jnl_at (i := 4) rfl) rfl ?_
        refine e_iload dX4_bestRound_52 rfl ?_
        refine e_if_ge 60 dX4_bestRound_54 (by decide) (fun c54 => ?_) (fun h => absurd h (by decide))
        refine e_aload_n dX4_bestRound_60 rfl ?_
        refine e_callVv (n := 0) mX4_putAside [] dX4_bestRound_61 ckX4_186 rfl (by decide +kernel) rfl rfl rfl rfl (Nat.le_of_ble_eq_true rfl) ⟨Nat.zero_le _, Nat.zero_le _⟩ (s_putAside m) (fun mp hmp => ?_)
        refine e_iconst (v := 0) dX4_bestRound_64 rfl ?_
        refine e_istore (L' := [some (.ref 98), some (.int (nI r)), some (.int (nI i)), some (.int (nI n)), some (.int w), some (.int 0), some (.int 0), none, none, none]) dX4_bestRound_65 (Nat.le_of_ble_eq_true rfl) (Nat.le_of_ble_eq_true rfl) (jnl_at (i := 5) rfl) rfl ?_
        refine e_iconst (v := -1) dX4_bestRound_67 rfl ?_
        refine e_istore (L' := [some (.ref 98), some (.int (nI r)), some (.int (nI i)), some (.int (nI n)), some (.int w), some (.int 0), some (.int 0), some (.int (-1)), none, none]) dX4_bestRound_68 (Nat.le_of_ble_eq_true rfl) (Nat.le_of_ble_eq_true rfl) (jnl_at (i := 6) rfl) rfl ?_
        refine e_iconst (v := 0) dX4_bestRound_70 rfl ?_
        refine e_istore (L' := [some (.ref 98), some (.int (nI r)), some (.int (nI i)), some (.int (nI n)), some (.int w), some (.int 0), some (.int 0), some (.int (-1)), some (.int 0), none]) dX4_bestRound_71 (Nat.le_of_ble_eq_true rfl) (Nat.le_of_ble_eq_true rfl) (jnl_at (i := 7) rfl) rfl ?_
        refine e_loopS (σ := Nat → Int32) 73 9 (fun d f => [some (.ref 98), some (.int (nI r)), some (.int (nI i)), some (.int (nI n)), some (.int w), some (.int 0), some (.int (nI (bestR (m 102) (fun j => m 101 (40 * r + i + j)) n V P d).1)), some (.int ((bestR (m 102) (fun j => m 101 (40 * r + i + j)) n V P d).2)), some (.int (nI d)), none]) (fun d f mm => mm = jup (asdM m) 106 f) 0 (mp 106) (Nat.zero_le _) rfl (by rw [← hmp]; exact (jup_id _ _).symm) ?_ ?_
        · intro f mm hI
          show jE _ _ 73 [some (.ref 98), some (.int (nI r)), some (.int (nI i)), some (.int (nI n)), some (.int w), some (.int 0), some (.int (nI (bestR (m 102) (fun j => m 101 (40 * r + i + j)) n V P 9).1)), some (.int ((bestR (m 102) (fun j => m 101 (40 * r + i + j)) n V P 9).2)), some (.int (nI 9)), none] [] mm
          refine e_iload dX4_bestRound_73 rfl ?_
          refine e_bipush (v := 8) dX4_bestRound_75 rfl ?_
          refine e_icmp_gt 144 dX4_bestRound_77 (by decide) (fun c77 => ?_) (fun h => absurd (by decide) h)
          refine e_aload_n dX4_bestRound_144 rfl ?_
          refine e_iload dX4_bestRound_145 rfl ?_
          refine e_if_ne 155 dX4_bestRound_147 (by decide) (fun c147 => ?_) (fun c147 => ?_)
          · refine e_iload dX4_bestRound_155 rfl ?_
            refine e_callVi (n := 1) mX4_well [.int ((bestR (m 102) (fun j => m 101 (40 * r + i + j)) n V P 9).2)] dX4_bestRound_157 ckX4_75 rfl (by decide +kernel) rfl rfl rfl rfl (Nat.le_of_ble_eq_true rfl) ⟨Nat.zero_le _, Nat.zero_le _⟩ (s_well ((bestR (m 102) (fun j => m 101 (40 * r + i + j)) n V P 9).2) mm) (fun v157 mw hmw => ?_)
            obtain ⟨rfl, hw⟩ := hmw
            exact e_iret dX4_bestRound_160 rfl (⟨by first | rw [if_pos c147] | rw [if_neg c147], f, by rw [← hw, hI]⟩)
          · refine e_iload dX4_bestRound_150 rfl ?_
            refine e_goto 157 dX4_bestRound_152 (by decide) ?_
            refine e_callVi (n := 1) mX4_well [.int (nI (bestR (m 102) (fun j => m 101 (40 * r + i + j)) n V P 9).1)] dX4_bestRound_157 ckX4_75 rfl (by decide +kernel) rfl rfl rfl rfl (Nat.le_of_ble_eq_true rfl) ⟨Nat.zero_le _, Nat.zero_le _⟩ (s_well (nI (bestR (m 102) (fun j => m 101 (40 * r + i + j)) n V P 9).1) mm) (fun v157 mw hmw => ?_)
            obtain ⟨rfl, hw⟩ := hmw
            exact e_iret dX4_bestRound_160 rfl (⟨by first | rw [if_pos c147] | rw [if_neg c147], f, by rw [← hw, hI]⟩)
        · intro d hk f mm hI ih
          show jE _ _ 73 [some (.ref 98), some (.int (nI r)), some (.int (nI i)), some (.int (nI n)), some (.int w), some (.int 0), some (.int (nI (bestR (m 102) (fun j => m 101 (40 * r + i + j)) n V P d).1)), some (.int ((bestR (m 102) (fun j => m 101 (40 * r + i + j)) n V P d).2)), some (.int (nI d)), none] [] mm
          have g102 : mm 102 = m 102 := by rw [hI, jup_n _ _ (by decide)]; exact jup_n _ _ (by decide)
          have g101 : mm 101 = m 101 := by rw [hI, jup_n _ _ (by decide)]; exact jup_n _ _ (by decide)
          have gv1 := h1
          have gv2 := h2
          refine e_iload dX4_bestRound_73 rfl ?_
          refine e_bipush (v := 8) dX4_bestRound_75 rfl ?_
          refine e_icmp_gt 144 dX4_bestRound_77 (by decide) (fun h => absurd h (Int32.not_lt.mpr ((j_le (a := d) (b := 8) (by omega) (by decide)).mpr (by omega)))) (fun c77 => ?_)
          refine e_aload_n dX4_bestRound_80 rfl ?_
          refine e_iload dX4_bestRound_81 rfl ?_
          refine e_bipush (v := 40) dX4_bestRound_83 rfl ?_
          refine e_iload_n dX4_bestRound_85 rfl ?_
          refine e_imul dX4_bestRound_86 ?_
          refine e_iload_n dX4_bestRound_87 rfl ?_
          refine e_iadd dX4_bestRound_88 ?_
          rw [show (40 * (nI r)) + (nI i) = nI ((40 * r) + i) from (j_add (j_mul rfl rfl) rfl)]
          refine e_iload_n dX4_bestRound_89 rfl ?_
          refine e_callVv (n := 3) mX4_singRound [.int (nI d), .int (nI ((40 * r) + i)), .int (nI n)] dX4_bestRound_90 ckX4_198 rfl (by decide +kernel) rfl rfl rfl rfl (Nat.le_of_ble_eq_true rfl) ⟨Nat.zero_le _, Nat.zero_le _⟩ (s_singRound mm V hV (by rw [g102]; exact gv1) P hP (by rw [g102]; exact gv2) d (40 * r + i) n (by omega) hn (by omega)) (fun ms hms => ?_)
          obtain ⟨f2, hms⟩ := hms
          have e102 : ms 102 = roundB (m 102) (fun j => m 101 (40 * r + i + j)) d n V P (rlen d n V) := by rw [hms, jup_s, g102, g101]
          refine e_aload_n dX4_bestRound_93 rfl ?_
          refine e_callVi (n := 0) mX4_setPans [] dX4_bestRound_94 ckX4_167 rfl (by decide +kernel) rfl rfl rfl rfl (Nat.le_of_ble_eq_true rfl) ⟨Nat.zero_le _, Nat.zero_le _⟩ (s_setPans ms P hP (by rw [e102]; exact (roundB_lo hV (by omega) (by decide) _).trans h2)) (fun v94 m9 hm9 => ?_)
          obtain ⟨rfl, rfl⟩ := hm9
          rw [e102, setB_N P hP (roundB_01 hV hP h01 _)]
          refine e_callSi (n := 1) mX4_ones [.int (nI (setN (roundB (m 102) (fun j => m 101 (40 * r + i + j)) d n V P (rlen d n V)) P))] dX4_bestRound_97 ckX4_202 rfl (by decide +kernel) rfl rfl (Nat.le_of_ble_eq_true rfl) ⟨Nat.zero_le _, Nat.zero_le _⟩ (s_ones ms (setN (roundB (m 102) (fun j => m 101 (40 * r + i + j)) d n V P (rlen d n V)) P) (set_256 hP)) (fun v97 m10 hm10 => ?_)
          obtain ⟨rfl, rfl⟩ := hm10
          refine e_istore (L' := [some (.ref 98), some (.int (nI r)), some (.int (nI i)), some (.int (nI n)), some (.int w), some (.int 0), some (.int (nI (bestR (m 102) (fun j => m 101 (40 * r + i + j)) n V P d).1)), some (.int ((bestR (m 102) (fun j => m 101 (40 * r + i + j)) n V P d).2)), some (.int (nI d)), some (.int (nI (popc (setN (roundB (m 102) (fun j => m 101 (40 * r + i + j)) d n V P (rlen d n V)) P))))]) dX4_bestRound_100 (Nat.le_of_ble_eq_true rfl) (Nat.le_of_ble_eq_true rfl) (jnl_at (i := 8) rfl) rfl ?_
          refine e_iload dX4_bestRound_102 rfl ?_
          refine e_iload dX4_bestRound_104 rfl ?_
          refine e_icmp_le 114 dX4_bestRound_106 (by decide) (fun c106 => ?_) (fun c106 => ?_)
          · refine e_iload dX4_bestRound_114 rfl ?_
            refine e_istore (L' := [some (.ref 98), some (.int (nI r)), some (.int (nI i)), some (.int (nI n)), some (.int w), some (.int 0), some (.int (nI (bestR (m 102) (fun j => m 101 (40 * r + i + j)) n V P d).1)), some (.int ((bestR (m 102) (fun j => m 101 (40 * r + i + j)) n V P d).2)), some (.int (nI d)), some (.int (nI (popc (setN (roundB (m 102) (fun j => m 101 (40 * r + i + j)) d n V P (rlen d n V)) P))))]) dX4_bestRound_116 (Nat.le_of_ble_eq_true rfl) (Nat.le_of_ble_eq_true rfl) (jnl_at (i := 5) rfl) rfl ?_
            refine e_iload dX4_bestRound_118 rfl ?_
            refine e_iload dX4_bestRound_120 rfl ?_
            refine e_icmp_le 130 dX4_bestRound_122 (by decide) (fun c122 => ?_) (fun c122 => ?_)
            · refine e_iload dX4_bestRound_130 rfl ?_
              refine e_istore (L' := [some (.ref 98), some (.int (nI r)), some (.int (nI i)), some (.int (nI n)), some (.int w), some (.int 0), some (.int (nI (bestR (m 102) (fun j => m 101 (40 * r + i + j)) n V P d).1)), some (.int ((bestR (m 102) (fun j => m 101 (40 * r + i + j)) n V P d).2)), some (.int (nI d)), some (.int (nI (popc (setN (roundB (m 102) (fun j => m 101 (40 * r + i + j)) d n V P (rlen d n V)) P))))]) dX4_bestRound_132 (Nat.le_of_ble_eq_true rfl) (Nat.le_of_ble_eq_true rfl) (jnl_at (i := 6) rfl) rfl ?_
              refine e_aload_n dX4_bestRound_134 rfl ?_
              refine e_callVv (n := 0) mX4_takeBack [] dX4_bestRound_135 ckX4_193 rfl (by decide +kernel) rfl rfl rfl rfl (Nat.le_of_ble_eq_true rfl) ⟨Nat.zero_le _, Nat.zero_le _⟩ (s_takeBack ms) (fun mt hmt => ?_)
              refine e_iinc (v := nI (d + 1)) (L' := [some (.ref 98), some (.int (nI r)), some (.int (nI i)), some (.int (nI n)), some (.int w), some (.int 0), some (.int (nI (bestR (m 102) (fun j => m 101 (40 * r + i + j)) n V P d).1)), some (.int ((bestR (m 102) (fun j => m 101 (40 * r + i + j)) n V P d).2)), some (.int (nI (d + 1))), some (.int (nI (popc (setN (roundB (m 102) (fun j => m 101 (40 * r + i + j)) d n V P (rlen d n V)) P))))]) dX4_bestRound_138 rfl (j_inc rfl) (by decide) (jnl_at (i := 7) rfl) rfl ?_
              refine e_goto 73 dX4_bestRound_141 (by decide) ?_
              refine e_weak [some (.ref 98), some (.int (nI r)), some (.int (nI i)), some (.int (nI n)), some (.int w), some (.int 0), some (.int (nI (bestR (m 102) (fun j => m 101 (40 * r + i + j)) n V P d).1)), some (.int ((bestR (m 102) (fun j => m 101 (40 * r + i + j)) n V P d).2)), some (.int (nI (d + 1))), none] (by simp [jle]) ?_
              have eB : (bestR (m 102) (fun j => m 101 (40 * r + i + j)) n V P (d + 1)) = bestR (m 102) (fun j => m 101 (40 * r + i + j)) n V P d := if_neg (Int32.not_lt.mpr c106)
              refine e_start (by simp only [eB]) rfl (ih f2 mt ?_)
              show mt = jup (asdM m) 106 f2
              rw [← hmt, hms, g102, g101, hI, jup_jup106]
              exact bak_ex m f2 _ (fun j hj => roundB_hi hV hP hj _)
            · refine e_iload dX4_bestRound_125 rfl ?_
              refine e_goto 132 dX4_bestRound_127 (by decide) ?_
              refine e_istore (L' := [some (.ref 98), some (.int (nI r)), some (.int (nI i)), some (.int (nI n)), some (.int w), some (.int 0), some (.int (nI (bestR (m 102) (fun j => m 101 (40 * r + i + j)) n V P d).1)), some (.int (nI (popc (setN (roundB (m 102) (fun j => m 101 (40 * r + i + j)) d n V P (rlen d n V)) P)))), some (.int (nI d)), some (.int (nI (popc (setN (roundB (m 102) (fun j => m 101 (40 * r + i + j)) d n V P (rlen d n V)) P))))]) dX4_bestRound_132 (Nat.le_of_ble_eq_true rfl) (Nat.le_of_ble_eq_true rfl) (jnl_at (i := 6) rfl) rfl ?_
              refine e_aload_n dX4_bestRound_134 rfl ?_
              refine e_callVv (n := 0) mX4_takeBack [] dX4_bestRound_135 ckX4_193 rfl (by decide +kernel) rfl rfl rfl rfl (Nat.le_of_ble_eq_true rfl) ⟨Nat.zero_le _, Nat.zero_le _⟩ (s_takeBack ms) (fun mt hmt => ?_)
              refine e_iinc (v := nI (d + 1)) (L' := [some (.ref 98), some (.int (nI r)), some (.int (nI i)), some (.int (nI n)), some (.int w), some (.int 0), some (.int (nI (bestR (m 102) (fun j => m 101 (40 * r + i + j)) n V P d).1)), some (.int (nI (popc (setN (roundB (m 102) (fun j => m 101 (40 * r + i + j)) d n V P (rlen d n V)) P)))), some (.int (nI (d + 1))), some (.int (nI (popc (setN (roundB (m 102) (fun j => m 101 (40 * r + i + j)) d n V P (rlen d n V)) P))))]) dX4_bestRound_138 rfl (j_inc rfl) (by decide) (jnl_at (i := 7) rfl) rfl ?_
              refine e_goto 73 dX4_bestRound_141 (by decide) ?_
              refine e_weak [some (.ref 98), some (.int (nI r)), some (.int (nI i)), some (.int (nI n)), some (.int w), some (.int 0), some (.int (nI (bestR (m 102) (fun j => m 101 (40 * r + i + j)) n V P d).1)), some (.int (nI (popc (setN (roundB (m 102) (fun j => m 101 (40 * r + i + j)) d n V P (rlen d n V)) P)))), some (.int (nI (d + 1))), none] (by simp [jle]) ?_
              first | exact absurd c106 c122 | exact absurd c122 c106
          · refine e_iload dX4_bestRound_109 rfl ?_
            refine e_goto 116 dX4_bestRound_111 (by decide) ?_
            refine e_istore (L' := [some (.ref 98), some (.int (nI r)), some (.int (nI i)), some (.int (nI n)), some (.int w), some (.int 0), some (.int (nI d)), some (.int ((bestR (m 102) (fun j => m 101 (40 * r + i + j)) n V P d).2)), some (.int (nI d)), some (.int (nI (popc (setN (roundB (m 102) (fun j => m 101 (40 * r + i + j)) d n V P (rlen d n V)) P))))]) dX4_bestRound_116 (Nat.le_of_ble_eq_true rfl) (Nat.le_of_ble_eq_true rfl) (jnl_at (i := 5) rfl) rfl ?_
            refine e_iload dX4_bestRound_118 rfl ?_
            refine e_iload dX4_bestRound_120 rfl ?_
            refine e_icmp_le 130 dX4_bestRound_122 (by decide) (fun c122 => ?_) (fun c122 => ?_)
            · refine e_iload dX4_bestRound_130 rfl ?_
              refine e_istore (L' := [some (.ref 98), some (.int (nI r)), some (.int (nI i)), some (.int (nI n)), some (.int w), some (.int 0), some (.int (nI d)), some (.int ((bestR (m 102) (fun j => m 101 (40 * r + i + j)) n V P d).2)), some (.int (nI d)), some (.int (nI (popc (setN (roundB (m 102) (fun j => m 101 (40 * r + i + j)) d n V P (rlen d n V)) P))))]) dX4_bestRound_132 (Nat.le_of_ble_eq_true rfl) (Nat.le_of_ble_eq_true rfl) (jnl_at (i := 6) rfl) rfl ?_
              refine e_aload_n dX4_bestRound_134 rfl ?_
              refine e_callVv (n := 0) mX4_takeBack [] dX4_bestRound_135 ckX4_193 rfl (by decide +kernel) rfl rfl rfl rfl (Nat.le_of_ble_eq_true rfl) ⟨Nat.zero_le _, Nat.zero_le _⟩ (s_takeBack ms) (fun mt hmt => ?_)
              refine e_iinc (v := nI (d + 1)) (L' := [some (.ref 98), some (.int (nI r)), some (.int (nI i)), some (.int (nI n)), some (.int w), some (.int 0), some (.int (nI d)), some (.int ((bestR (m 102) (fun j => m 101 (40 * r + i + j)) n V P d).2)), some (.int (nI (d + 1))), some (.int (nI (popc (setN (roundB (m 102) (fun j => m 101 (40 * r + i + j)) d n V P (rlen d n V)) P))))]) dX4_bestRound_138 rfl (j_inc rfl) (by decide) (jnl_at (i := 7) rfl) rfl ?_
              refine e_goto 73 dX4_bestRound_141 (by decide) ?_
              refine e_weak [some (.ref 98), some (.int (nI r)), some (.int (nI i)), some (.int (nI n)), some (.int w), some (.int 0), some (.int (nI d)), some (.int ((bestR (m 102) (fun j => m 101 (40 * r + i + j)) n V P d).2)), some (.int (nI (d + 1))), none] (by simp [jle]) ?_
              first | exact absurd c106 c122 | exact absurd c122 c106
            · refine e_iload dX4_bestRound_125 rfl ?_
              refine e_goto 132 dX4_bestRound_127 (by decide) ?_
              refine e_istore (L' := [some (.ref 98), some (.int (nI r)), some (.int (nI i)), some (.int (nI n)), some (.int w), some (.int 0), some (.int (nI d)), some (.int (nI (popc (setN (roundB (m 102) (fun j => m 101 (40 * r + i + j)) d n V P (rlen d n V)) P)))), some (.int (nI d)), some (.int (nI (popc (setN (roundB (m 102) (fun j => m 101 (40 * r + i + j)) d n V P (rlen d n V)) P))))]) dX4_bestRound_132 (Nat.le_of_ble_eq_true rfl) (Nat.le_of_ble_eq_true rfl) (jnl_at (i := 6) rfl) rfl ?_
              refine e_aload_n dX4_bestRound_134 rfl ?_
              refine e_callVv (n := 0) mX4_takeBack [] dX4_bestRound_135 ckX4_193 rfl (by decide +kernel) rfl rfl rfl rfl (Nat.le_of_ble_eq_true rfl) ⟨Nat.zero_le _, Nat.zero_le _⟩ (s_takeBack ms) (fun mt hmt => ?_)
              refine e_iinc (v := nI (d + 1)) (L' := [some (.ref 98), some (.int (nI r)), some (.int (nI i)), some (.int (nI n)), some (.int w), some (.int 0), some (.int (nI d)), some (.int (nI (popc (setN (roundB (m 102) (fun j => m 101 (40 * r + i + j)) d n V P (rlen d n V)) P)))), some (.int (nI (d + 1))), some (.int (nI (popc (setN (roundB (m 102) (fun j => m 101 (40 * r + i + j)) d n V P (rlen d n V)) P))))]) dX4_bestRound_138 rfl (j_inc rfl) (by decide) (jnl_at (i := 7) rfl) rfl ?_
              refine e_goto 73 dX4_bestRound_141 (by decide) ?_
              refine e_weak [some (.ref 98), some (.int (nI r)), some (.int (nI i)), some (.int (nI n)), some (.int w), some (.int 0), some (.int (nI d)), some (.int (nI (popc (setN (roundB (m 102) (fun j => m 101 (40 * r + i + j)) d n V P (rlen d n V)) P)))), some (.int (nI (d + 1))), none] (by simp [jle]) ?_
              have eB : (bestR (m 102) (fun j => m 101 (40 * r + i + j)) n V P (d + 1)) = (d, nI (popc (setN (roundB (m 102) (fun j => m 101 (40 * r + i + j)) d n V P (rlen d n V)) P))) := if_pos (j_nle c106)
              refine e_start (by simp only [eB]) rfl (ih f2 mt ?_)
              show mt = jup (asdM m) 106 f2
              rw [← hmt, hms, g102, g101, hI, jup_jup106]
              exact bak_ex m f2 _ (fun j hj => roundB_hi hV hP hj _)
      · exact False.elim (q3 hw2)
    · exact False.elim (q2 (inN_nI (by decide) (by omega)))
  · exact False.elim (q1 (inN_nI (by decide) hr))

set_option maxHeartbeats 2000000 in
set_option maxRecDepth 20000 in
theorem s_Dmodes_b (m : jM) (V : Nat) (hV : V ≤ 3) (h1 : m 102 1 = nI V) (P : Nat) (hP : P ≤ 5) (h2 : m 102 2 = nI P) (x y z i n th w : Int32) (hb : ¬ (inN x P ∧ inN y V ∧ inN z 8 ∧ inN n 17 ∧ inN th 21 ∧ inN w 2)) : iX mX4_modes [.ref 98, .int x, .int y, .int z, .int i, .int n, .int th, .int w] m (fun v m1 => v = -1000001 ∧ m = m1) := by
  refine jX_of (L := [some (.ref 98), some (.int x), some (.int y), some (.int z), some (.int i), some (.int n), some (.int th), some (.int w), none, none, none, none, none]) 5 rfl rfl (by decide +kernel) rfl ?_
  refine e_aload_n dX4_modes_0 rfl ?_
  refine e_iload_n dX4_modes_1 rfl ?_
  refine e_callVi (n := 1) mX4_isPan [.int x] dX4_modes_2 ckX4_171 rfl (by decide +kernel) rfl rfl rfl rfl (Nat.le_of_ble_eq_true rfl) ⟨Nat.zero_le _, Nat.zero_le _⟩ (s_panN x m P hP h2) (fun v2 m1 hm1 => ?_)
  rcases hm1 with ⟨rfl, ⟨rfl, q⟩ | ⟨rfl, q⟩⟩
  · refine e_if_eq 60 dX4_modes_5 (by decide) (fun h => absurd h (by decide)) (fun c5 => ?_)
    refine e_aload_n dX4_modes_8 rfl ?_
    refine e_iload_n dX4_modes_9 rfl ?_
    refine e_callVi (n := 1) mX4_isSinger [.int y] dX4_modes_10 ckX4_174 rfl (by decide +kernel) rfl rfl rfl rfl (Nat.le_of_ble_eq_true rfl) ⟨Nat.zero_le _, Nat.zero_le _⟩ (s_sngN y m V hV h1) (fun v10 m2 hm2 => ?_)
    rcases hm2 with ⟨rfl, ⟨rfl, q1⟩ | ⟨rfl, q1⟩⟩
    · refine e_if_eq 60 dX4_modes_13 (by decide) (fun h => absurd h (by decide)) (fun c13 => ?_)
      refine e_iload_n dX4_modes_16 rfl ?_
      refine e_callSi (n := 1) mX4_isRow [.int z] dX4_modes_17 ckX4_64 rfl (by decide +kernel) rfl rfl (Nat.le_of_ble_eq_true rfl) ⟨Nat.zero_le _, Nat.zero_le _⟩ (s_rowN z m) (fun v17 m3 hm3 => ?_)
      rcases hm3 with ⟨rfl, ⟨rfl, q2⟩ | ⟨rfl, q2⟩⟩
      · refine e_if_eq 60 dX4_modes_20 (by decide) (fun h => absurd h (by decide)) (fun c20 => ?_)
        refine e_iload dX4_modes_23 rfl ?_
        refine e_i2l dX4_modes_25 ?_
        refine e_lconst (v := 0) dX4_modes_26 rfl ?_
        refine e_ldc2 dX4_modes_27 kkX4_180 ?_
        refine e_callSi (n := 3) mX4_in [.long (Int32.toInt64 n), .long 0, .long (16)] dX4_modes_30 ckX4_60 rfl (by decide +kernel) rfl rfl (Nat.le_of_ble_eq_true rfl) ⟨Nat.zero_le _, Nat.zero_le _⟩ (s_inN n (16) 17 (by decide) (by decide) m) (fun v30 m4 hm4 => ?_)
        rcases hm4 with ⟨rfl, ⟨rfl, q3⟩ | ⟨rfl, q3⟩⟩
        · refine e_if_eq 60 dX4_modes_33 (by decide) (fun h => absurd h (by decide)) (fun c33 => ?_)
          refine e_iload dX4_modes_36 rfl ?_
          refine e_i2l dX4_modes_38 ?_
          refine e_lconst (v := 0) dX4_modes_39 rfl ?_
          refine e_ldc2 dX4_modes_40 kkX4_215 ?_
          refine e_callSi (n := 3) mX4_in [.long (Int32.toInt64 th), .long 0, .long (20)] dX4_modes_43 ckX4_60 rfl (by decide +kernel) rfl rfl (Nat.le_of_ble_eq_true rfl) ⟨Nat.zero_le _, Nat.zero_le _⟩ (s_inN th (20) 21 (by decide) (by decide) m) (fun v43 m5 hm5 => ?_)
          rcases hm5 with ⟨rfl, ⟨rfl, q4⟩ | ⟨rfl, q4⟩⟩
          · refine e_if_eq 60 dX4_modes_46 (by decide) (fun h => absurd h (by decide)) (fun c46 => ?_)
            refine e_iload dX4_modes_49 rfl ?_
            refine e_i2l dX4_modes_51 ?_
            refine e_lconst (v := 0) dX4_modes_52 rfl ?_
            refine e_lconst (v := 1) dX4_modes_53 rfl ?_
            refine e_callSi (n := 3) mX4_in [.long (Int32.toInt64 w), .long 0, .long 1] dX4_modes_54 ckX4_60 rfl (by decide +kernel) rfl rfl (Nat.le_of_ble_eq_true rfl) ⟨Nat.zero_le _, Nat.zero_le _⟩ (s_inN w 1 2 (by decide) (by decide) m) (fun v54 m6 hm6 => ?_)
            rcases hm6 with ⟨rfl, ⟨rfl, q5⟩ | ⟨rfl, q5⟩⟩
            · exact False.elim (hb ⟨q, q1, q2, q3, q4, q5⟩)
            · refine e_if_ne 63 dX4_modes_57 (by decide) (fun h => absurd h (by decide)) (fun c57 => ?_)
              refine e_ldc dX4_modes_60 kkX4_70 ?_
              exact e_iret dX4_modes_62 rfl (⟨rfl, rfl⟩)
          · refine e_if_eq 60 dX4_modes_46 (by decide) (fun c46 => ?_) (fun h => absurd h (by decide))
            refine e_ldc dX4_modes_60 kkX4_70 ?_
            exact e_iret dX4_modes_62 rfl (⟨rfl, rfl⟩)
        · refine e_if_eq 60 dX4_modes_33 (by decide) (fun c33 => ?_) (fun h => absurd h (by decide))
          refine e_ldc dX4_modes_60 kkX4_70 ?_
          exact e_iret dX4_modes_62 rfl (⟨rfl, rfl⟩)
      · refine e_if_eq 60 dX4_modes_20 (by decide) (fun c20 => ?_) (fun h => absurd h (by decide))
        refine e_ldc dX4_modes_60 kkX4_70 ?_
        exact e_iret dX4_modes_62 rfl (⟨rfl, rfl⟩)
    · refine e_if_eq 60 dX4_modes_13 (by decide) (fun c13 => ?_) (fun h => absurd h (by decide))
      refine e_ldc dX4_modes_60 kkX4_70 ?_
      exact e_iret dX4_modes_62 rfl (⟨rfl, rfl⟩)
  · refine e_if_eq 60 dX4_modes_5 (by decide) (fun c5 => ?_) (fun h => absurd h (by decide))
    refine e_ldc dX4_modes_60 kkX4_70 ?_
    exact e_iret dX4_modes_62 rfl (⟨rfl, rfl⟩)

set_option maxHeartbeats 2000000 in
set_option maxRecDepth 20000 in
theorem s_Dmodes_f (m : jM) (V : Nat) (hV : V ≤ 3) (h1 : m 102 1 = nI V) (P : Nat) (hP : P ≤ 5) (h2 : m 102 2 = nI P) (p : Nat) (hp : p < P) (s : Nat) (hs : s < V) (r : Nat) (hr : r < 8) (n : Nat) (hn : n ≤ 16) (th w : Int32) (hth : inN th 21) (hw2 : inN w 2) (i : Int32) (hsz : szOK m r) (htn : ¬ tuneOK m r i n) : iX mX4_modes [.ref 98, .int (nI p), .int (nI s), .int (nI r), .int i, .int (nI n), .int th, .int w] m (fun v m1 => v = lackV m r i n ∧ lackM m r i n = m1) := by
  refine jX_of (L := [some (.ref 98), some (.int (nI p)), some (.int (nI s)), some (.int (nI r)), some (.int i), some (.int (nI n)), some (.int th), some (.int w), none, none, none, none, none]) 5 rfl rfl (by decide +kernel) rfl ?_
  refine e_aload_n dX4_modes_0 rfl ?_
  refine e_iload_n dX4_modes_1 rfl ?_
  refine e_callVi (n := 1) mX4_isPan [.int (nI p)] dX4_modes_2 ckX4_171 rfl (by decide +kernel) rfl rfl rfl rfl (Nat.le_of_ble_eq_true rfl) ⟨Nat.zero_le _, Nat.zero_le _⟩ (s_panN (nI p) m P hP h2) (fun v2 m1 hm1 => ?_)
  rcases hm1 with ⟨rfl, ⟨rfl, q5⟩ | ⟨rfl, q5⟩⟩
  · refine e_if_eq 60 dX4_modes_5 (by decide) (fun h => absurd h (by decide)) (fun c5 => ?_)
    refine e_aload_n dX4_modes_8 rfl ?_
    refine e_iload_n dX4_modes_9 rfl ?_
    refine e_callVi (n := 1) mX4_isSinger [.int (nI s)] dX4_modes_10 ckX4_174 rfl (by decide +kernel) rfl rfl rfl rfl (Nat.le_of_ble_eq_true rfl) ⟨Nat.zero_le _, Nat.zero_le _⟩ (s_sngN (nI s) m V hV h1) (fun v10 m2 hm2 => ?_)
    rcases hm2 with ⟨rfl, ⟨rfl, q6⟩ | ⟨rfl, q6⟩⟩
    · refine e_if_eq 60 dX4_modes_13 (by decide) (fun h => absurd h (by decide)) (fun c13 => ?_)
      refine e_iload_n dX4_modes_16 rfl ?_
      refine e_callSi (n := 1) mX4_isRow [.int (nI r)] dX4_modes_17 ckX4_64 rfl (by decide +kernel) rfl rfl (Nat.le_of_ble_eq_true rfl) ⟨Nat.zero_le _, Nat.zero_le _⟩ (s_rowN (nI r) m) (fun v17 m3 hm3 => ?_)
      rcases hm3 with ⟨rfl, ⟨rfl, q1⟩ | ⟨rfl, q1⟩⟩
      · refine e_if_eq 60 dX4_modes_20 (by decide) (fun h => absurd h (by decide)) (fun c20 => ?_)
        refine e_iload dX4_modes_23 rfl ?_
        refine e_i2l dX4_modes_25 ?_
        refine e_lconst (v := 0) dX4_modes_26 rfl ?_
        refine e_ldc2 dX4_modes_27 kkX4_180 ?_
        refine e_callSi (n := 3) mX4_in [.long (Int32.toInt64 (nI n)), .long 0, .long (16)] dX4_modes_30 ckX4_60 rfl (by decide +kernel) rfl rfl (Nat.le_of_ble_eq_true rfl) ⟨Nat.zero_le _, Nat.zero_le _⟩ (s_inN (nI n) (16) 17 (by decide) (by decide) m) (fun v30 m4 hm4 => ?_)
        rcases hm4 with ⟨rfl, ⟨rfl, q2⟩ | ⟨rfl, q2⟩⟩
        · refine e_if_eq 60 dX4_modes_33 (by decide) (fun h => absurd h (by decide)) (fun c33 => ?_)
          refine e_iload dX4_modes_36 rfl ?_
          refine e_i2l dX4_modes_38 ?_
          refine e_lconst (v := 0) dX4_modes_39 rfl ?_
          refine e_ldc2 dX4_modes_40 kkX4_215 ?_
          refine e_callSi (n := 3) mX4_in [.long (Int32.toInt64 th), .long 0, .long (20)] dX4_modes_43 ckX4_60 rfl (by decide +kernel) rfl rfl (Nat.le_of_ble_eq_true rfl) ⟨Nat.zero_le _, Nat.zero_le _⟩ (s_inN th (20) 21 (by decide) (by decide) m) (fun v43 m5 hm5 => ?_)
          rcases hm5 with ⟨rfl, ⟨rfl, q7⟩ | ⟨rfl, q7⟩⟩
          · refine e_if_eq 60 dX4_modes_46 (by decide) (fun h => absurd h (by decide)) (fun c46 => ?_)
            refine e_iload dX4_modes_49 rfl ?_
            refine e_i2l dX4_modes_51 ?_
            refine e_lconst (v := 0) dX4_modes_52 rfl ?_
            refine e_lconst (v := 1) dX4_modes_53 rfl ?_
            refine e_callSi (n := 3) mX4_in [.long (Int32.toInt64 w), .long 0, .long 1] dX4_modes_54 ckX4_60 rfl (by decide +kernel) rfl rfl (Nat.le_of_ble_eq_true rfl) ⟨Nat.zero_le _, Nat.zero_le _⟩ (s_inN w 1 2 (by decide) (by decide) m) (fun v54 m6 hm6 => ?_)
            rcases hm6 with ⟨rfl, ⟨rfl, q3⟩ | ⟨rfl, q3⟩⟩
            · refine e_if_ne 63 dX4_modes_57 (by decide) (fun c57 => ?_) (fun h => absurd h (by decide))
              refine e_aload_n dX4_modes_63 rfl ?_
              refine e_iload_n dX4_modes_64 rfl ?_
              refine e_iload dX4_modes_65 rfl ?_
              refine e_iload dX4_modes_67 rfl ?_
              refine e_callVi (n := 3) mX4_lacks [.int (nI r), .int i, .int (nI n)] dX4_modes_69 ckX4_182 rfl (by decide +kernel) rfl rfl rfl rfl (Nat.le_of_ble_eq_true rfl) ⟨Nat.zero_le _, Nat.zero_le _⟩ (s_lacksF m r hr n hn i hsz htn) (fun v69 ml hml => ?_)
              obtain ⟨rfl, hlk⟩ := hml
              refine e_istore (L' := [some (.ref 98), some (.int (nI p)), some (.int (nI s)), some (.int (nI r)), some (.int i), some (.int (nI n)), some (.int th), some (.int w), some (.int (lackV m r i n)), none, none, none, none]) dX4_modes_72 (Nat.le_of_ble_eq_true rfl) (Nat.le_of_ble_eq_true rfl) (jnl_at (i := 7) rfl) rfl ?_
              refine e_iload dX4_modes_74 rfl ?_
              refine e_if_ge 82 dX4_modes_76 (by decide) (fun h => absurd (lackV_neg m r i n) (Int32.not_lt.mpr h)) (fun c76 => ?_)
              refine e_iload dX4_modes_79 rfl ?_
              exact e_iret dX4_modes_81 rfl (⟨rfl, hlk⟩)
            · exact False.elim (q3 hw2)
          · exact False.elim (q7 hth)
        · exact False.elim (q2 (inN_nI (by decide) (by omega)))
      · exact False.elim (q1 (inN_nI (by decide) hr))
    · exact False.elim (q6 (inN_nI (by omega) hs))
  · exact False.elim (q5 (inN_nI (by omega) hp))

set_option maxHeartbeats 2000000 in
set_option maxRecDepth 20000 in
theorem s_Dmodes (m : jM) (V : Nat) (hV : V ≤ 3) (h1 : m 102 1 = nI V) (P : Nat) (hP : P ≤ 5) (h2 : m 102 2 = nI P) (p : Nat) (hp : p < P) (s : Nat) (hs : s < V) (r : Nat) (hr : r < 8) (n : Nat) (hn : n ≤ 16) (th w : Int32) (hth : inN th 21) (hw2 : inN w 2) (i k : Nat) (hk : k ≤ 40) (hsz : m 100 r = nI k) (hik : i + n ≤ k) (hgd : goodB (m 101) (40 * r + i) n = true) : iX mX4_modes [.ref 98, .int (nI p), .int (nI s), .int (nI r), .int (nI i), .int (nI n), .int th, .int w] m (fun v m1 => v = (if w = 0 then nI (cntD (mdP (m 102) (fun j => m 101 (40 * r + i + j)) s n V P p th) 128) else lstD (mdP (m 102) (fun j => m 101 (40 * r + i + j)) s n V P p th) 128) ∧ ∃ f, jst (jup (asdM m) 106 f) 98 3 0 = m1) := by
  refine jX_of (L := [some (.ref 98), some (.int (nI p)), some (.int (nI s)), some (.int (nI r)), some (.int (nI i)), some (.int (nI n)), some (.int th), some (.int w), none, none, none, none, none]) 5 rfl rfl (by decide +kernel) rfl ?_
  refine e_aload_n dX4_modes_0 rfl ?_
  refine e_iload_n dX4_modes_1 rfl ?_
  refine e_callVi (n := 1) mX4_isPan [.int (nI p)] dX4_modes_2 ckX4_171 rfl (by decide +kernel) rfl rfl rfl rfl (Nat.le_of_ble_eq_true rfl) ⟨Nat.zero_le _, Nat.zero_le _⟩ (s_panN (nI p) m P hP h2) (fun v2 m1 hm1 => ?_)
  rcases hm1 with ⟨rfl, ⟨rfl, q5⟩ | ⟨rfl, q5⟩⟩
  · refine e_if_eq 60 dX4_modes_5 (by decide) (fun h => absurd h (by decide)) (fun c5 => ?_)
    refine e_aload_n dX4_modes_8 rfl ?_
    refine e_iload_n dX4_modes_9 rfl ?_
    refine e_callVi (n := 1) mX4_isSinger [.int (nI s)] dX4_modes_10 ckX4_174 rfl (by decide +kernel) rfl rfl rfl rfl (Nat.le_of_ble_eq_true rfl) ⟨Nat.zero_le _, Nat.zero_le _⟩ (s_sngN (nI s) m V hV h1) (fun v10 m2 hm2 => ?_)
    rcases hm2 with ⟨rfl, ⟨rfl, q6⟩ | ⟨rfl, q6⟩⟩
    · refine e_if_eq 60 dX4_modes_13 (by decide) (fun h => absurd h (by decide)) (fun c13 => ?_)
      refine e_iload_n dX4_modes_16 rfl ?_
      refine e_callSi (n := 1) mX4_isRow [.int (nI r)] dX4_modes_17 ckX4_64 rfl (by decide +kernel) rfl rfl (Nat.le_of_ble_eq_true rfl) ⟨Nat.zero_le _, Nat.zero_le _⟩ (s_rowN (nI r) m) (fun v17 m3 hm3 => ?_)
      rcases hm3 with ⟨rfl, ⟨rfl, q1⟩ | ⟨rfl, q1⟩⟩
      · refine e_if_eq 60 dX4_modes_20 (by decide) (fun h => absurd h (by decide)) (fun c20 => ?_)
        refine e_iload dX4_modes_23 rfl ?_
        refine e_i2l dX4_modes_25 ?_
        refine e_lconst (v := 0) dX4_modes_26 rfl ?_
        refine e_ldc2 dX4_modes_27 kkX4_180 ?_
        refine e_callSi (n := 3) mX4_in [.long (Int32.toInt64 (nI n)), .long 0, .long (16)] dX4_modes_30 ckX4_60 rfl (by decide +kernel) rfl rfl (Nat.le_of_ble_eq_true rfl) ⟨Nat.zero_le _, Nat.zero_le _⟩ (s_inN (nI n) (16) 17 (by decide) (by decide) m) (fun v30 m4 hm4 => ?_)
        rcases hm4 with ⟨rfl, ⟨rfl, q2⟩ | ⟨rfl, q2⟩⟩
        · refine e_if_eq 60 dX4_modes_33 (by decide) (fun h => absurd h (by decide)) (fun c33 => ?_)
          refine e_iload dX4_modes_36 rfl ?_
          refine e_i2l dX4_modes_38 ?_
          refine e_lconst (v := 0) dX4_modes_39 rfl ?_
          refine e_ldc2 dX4_modes_40 kkX4_215 ?_
          refine e_callSi (n := 3) mX4_in [.long (Int32.toInt64 th), .long 0, .long (20)] dX4_modes_43 ckX4_60 rfl (by decide +kernel) rfl rfl (Nat.le_of_ble_eq_true rfl) ⟨Nat.zero_le _, Nat.zero_le _⟩ (s_inN th (20) 21 (by decide) (by decide) m) (fun v43 m5 hm5 => ?_)
          rcases hm5 with ⟨rfl, ⟨rfl, q7⟩ | ⟨rfl, q7⟩⟩
          · refine e_if_eq 60 dX4_modes_46 (by decide) (fun h => absurd h (by decide)) (fun c46 => ?_)
            refine e_iload dX4_modes_49 rfl ?_
            refine e_i2l dX4_modes_51 ?_
            refine e_lconst (v := 0) dX4_modes_52 rfl ?_
            refine e_lconst (v := 1) dX4_modes_53 rfl ?_
            refine e_callSi (n := 3) mX4_in [.long (Int32.toInt64 w), .long 0, .long 1] dX4_modes_54 ckX4_60 rfl (by decide +kernel) rfl rfl (Nat.le_of_ble_eq_true rfl) ⟨Nat.zero_le _, Nat.zero_le _⟩ (s_inN w 1 2 (by decide) (by decide) m) (fun v54 m6 hm6 => ?_)
            rcases hm6 with ⟨rfl, ⟨rfl, q3⟩ | ⟨rfl, q3⟩⟩
            · refine e_if_ne 63 dX4_modes_57 (by decide) (fun c57 => ?_) (fun h => absurd h (by decide))
              refine e_aload_n dX4_modes_63 rfl ?_
              refine e_iload_n dX4_modes_64 rfl ?_
              refine e_iload dX4_modes_65 rfl ?_
              refine e_iload dX4_modes_67 rfl ?_
              refine e_callVi (n := 3) mX4_lacks [.int (nI r), .int (nI i), .int (nI n)] dX4_modes_69 ckX4_182 rfl (by decide +kernel) rfl rfl rfl rfl (Nat.le_of_ble_eq_true rfl) ⟨Nat.zero_le _, Nat.zero_le _⟩ (s_lacksT m r hr n hn i k hk hsz hik hgd) (fun v69 m7 hm7 => ?_)
              obtain ⟨rfl, rfl⟩ := hm7
              refine e_istore (L' := [some (.ref 98), some (.int (nI p)), some (.int (nI s)), some (.int (nI r)), some (.int (nI i)), some (.int (nI n)), some (.int th), some (.int w), some (.int 0), none, none, none, none]) dX4_modes_72 (Nat.le_of_ble_eq_true rfl) (Nat.le_of_ble_eq_true rfl) (jnl_at (i := 7) rfl) rfl ?_
              refine e_iload dX4_modes_74 rfl ?_
              refine e_if_ge 82 dX4_modes_76 (by decide) (fun c76 => ?_) (fun h => absurd h (by decide))
              refine e_aload_n dX4_modes_82 rfl ?_
              refine e_callVv (n := 0) mX4_putAside [] dX4_modes_83 ckX4_186 rfl (by decide +kernel) rfl rfl rfl rfl (Nat.le_of_ble_eq_true rfl) ⟨Nat.zero_le _, Nat.zero_le _⟩ (s_putAside m) (fun mp hmp => ?_)
              refine e_iconst (v := 0) dX4_modes_86 rfl ?_
              refine e_istore (L' := [some (.ref 98), some (.int (nI p)), some (.int (nI s)), some (.int (nI r)), some (.int (nI i)), some (.int (nI n)), some (.int th), some (.int w), some (.int 0), some (.int 0), none, none, none]) dX4_modes_87 (Nat.le_of_ble_eq_true rfl) (Nat.le_of_ble_eq_true rfl) (jnl_at (i := 8) rfl) rfl ?_
              refine e_ldc dX4_modes_89 kkX4_127 ?_
              refine e_istore (L' := [some (.ref 98), some (.int (nI p)), some (.int (nI s)), some (.int (nI r)), some (.int (nI i)), some (.int (nI n)), some (.int th), some (.int w), some (.int 0), some (.int 0), some (.int (-1000000)), none, none]) dX4_modes_91 (Nat.le_of_ble_eq_true rfl) (Nat.le_of_ble_eq_true rfl) (jnl_at (i := 9) rfl) rfl ?_
              refine e_bipush (v := 127) dX4_modes_93 rfl ?_
              refine e_istore (L' := [some (.ref 98), some (.int (nI p)), some (.int (nI s)), some (.int (nI r)), some (.int (nI i)), some (.int (nI n)), some (.int th), some (.int w), some (.int 0), some (.int 0), some (.int (-1000000)), some (.int 127), none]) dX4_modes_95 (Nat.le_of_ble_eq_true rfl) (Nat.le_of_ble_eq_true rfl) (jnl_at (i := 10) rfl) rfl ?_
              refine e_loopS (σ := Nat → Int32) 97 128 (fun u f => [some (.ref 98), some (.int (nI p)), some (.int (nI s)), some (.int (nI r)), some (.int (nI i)), some (.int (nI n)), some (.int th), some (.int w), some (.int 0), some (.int (nI (cntD (mdP (m 102) (fun j => m 101 (40 * r + i + j)) s n V P p th) u))), some (.int (lstD (mdP (m 102) (fun j => m 101 (40 * r + i + j)) s n V P p th) u)), some (.int (127 - nI u)), none]) (fun u f mm => mm = jup (asdM m) 106 f) 0 (mp 106) (Nat.zero_le _) rfl (by rw [← hmp]; exact (jup_id _ _).symm) ?_ ?_
              · intro f mm hI
                show jE _ _ 97 [some (.ref 98), some (.int (nI p)), some (.int (nI s)), some (.int (nI r)), some (.int (nI i)), some (.int (nI n)), some (.int th), some (.int w), some (.int 0), some (.int (nI (cntD (mdP (m 102) (fun j => m 101 (40 * r + i + j)) s n V P p th) 128))), some (.int (lstD (mdP (m 102) (fun j => m 101 (40 * r + i + j)) s n V P p th) 128)), some (.int (127 - nI 128)), none] [] mm
                refine e_iload dX4_modes_97 rfl ?_
                refine e_if_lt 188 dX4_modes_99 (by decide) (fun c99 => ?_) (fun h => absurd (by decide) h)
                refine e_aload_n dX4_modes_188 rfl ?_
                refine e_iload dX4_modes_189 rfl ?_
                refine e_if_ne 199 dX4_modes_191 (by decide) (fun c191 => ?_) (fun c191 => ?_)
                · refine e_iload dX4_modes_199 rfl ?_
                  refine e_callVi (n := 1) mX4_well [.int (lstD (mdP (m 102) (fun j => m 101 (40 * r + i + j)) s n V P p th) 128)] dX4_modes_201 ckX4_75 rfl (by decide +kernel) rfl rfl rfl rfl (Nat.le_of_ble_eq_true rfl) ⟨Nat.zero_le _, Nat.zero_le _⟩ (s_well (lstD (mdP (m 102) (fun j => m 101 (40 * r + i + j)) s n V P p th) 128) mm) (fun v201 mw hmw => ?_)
                  obtain ⟨rfl, hw⟩ := hmw
                  exact e_iret dX4_modes_204 rfl (⟨by first | rw [if_pos c191] | rw [if_neg c191], f, by rw [← hw, hI]⟩)
                · refine e_iload dX4_modes_194 rfl ?_
                  refine e_goto 201 dX4_modes_196 (by decide) ?_
                  refine e_callVi (n := 1) mX4_well [.int (nI (cntD (mdP (m 102) (fun j => m 101 (40 * r + i + j)) s n V P p th) 128))] dX4_modes_201 ckX4_75 rfl (by decide +kernel) rfl rfl rfl rfl (Nat.le_of_ble_eq_true rfl) ⟨Nat.zero_le _, Nat.zero_le _⟩ (s_well (nI (cntD (mdP (m 102) (fun j => m 101 (40 * r + i + j)) s n V P p th) 128)) mm) (fun v201 mw hmw => ?_)
                  obtain ⟨rfl, hw⟩ := hmw
                  exact e_iret dX4_modes_204 rfl (⟨by first | rw [if_pos c191] | rw [if_neg c191], f, by rw [← hw, hI]⟩)
              · intro u hk f mm hI ih
                show jE _ _ 97 [some (.ref 98), some (.int (nI p)), some (.int (nI s)), some (.int (nI r)), some (.int (nI i)), some (.int (nI n)), some (.int th), some (.int w), some (.int 0), some (.int (nI (cntD (mdP (m 102) (fun j => m 101 (40 * r + i + j)) s n V P p th) u))), some (.int (lstD (mdP (m 102) (fun j => m 101 (40 * r + i + j)) s n V P p th) u)), some (.int (127 - nI u)), none] [] mm
                have g102 : mm 102 = m 102 := by rw [hI, jup_n _ _ (by decide)]; exact jup_n _ _ (by decide)
                have g101 : mm 101 = m 101 := by rw [hI, jup_n _ _ (by decide)]; exact jup_n _ _ (by decide)
                refine e_iload dX4_modes_97 rfl ?_
                refine e_if_lt 188 dX4_modes_99 (by decide) (fun h => absurd h (by rw [m_down u hk]; exact nI_pos (by omega))) (fun c99 => ?_)
                rw [m_down u hk]
                refine e_aload_n dX4_modes_102 rfl ?_
                refine e_getR (o := 4) (b := 102) dX4_modes_103 lkX4_19 rfl rfl (by decide) rfl ?_
                refine e_bipush (v := 21) dX4_modes_106 rfl ?_
                refine e_iload_n dX4_modes_108 rfl ?_
                refine e_iadd dX4_modes_109 ?_
                refine e_iload dX4_modes_110 rfl ?_
                refine e_iast dX4_modes_112 rfl (21 + p) (j_add rfl rfl) (by omega) (by decide) (fun ma hma => ?_)
                have g2 : ma 102 = (upd (m 102) (21 + p) (nI (127 - u))) := by rw [hma, jup_s, g102]
                have g1 : ma 101 = m 101 := by rw [hma, jup_n _ _ (by decide), g101]
                refine e_aload_n dX4_modes_113 rfl ?_
                refine e_iload_n dX4_modes_114 rfl ?_
                refine e_bipush (v := 40) dX4_modes_115 rfl ?_
                refine e_iload_n dX4_modes_117 rfl ?_
                refine e_imul dX4_modes_118 ?_
                refine e_iload dX4_modes_119 rfl ?_
                refine e_iadd dX4_modes_121 ?_
                rw [show (40 * (nI r)) + (nI i) = nI ((40 * r) + i) from (j_add (j_mul rfl rfl) rfl)]
                refine e_iload dX4_modes_122 rfl ?_
                refine e_iconst (v := 0) dX4_modes_124 rfl ?_
                refine e_callVv (n := 4) mX4_singAlone [.int (nI s), .int (nI ((40 * r) + i)), .int (nI n), .int 0] dX4_modes_125 ckX4_189 rfl (by decide +kernel) rfl rfl rfl rfl (Nat.le_of_ble_eq_true rfl) ⟨Nat.zero_le _, Nat.zero_le _⟩ (s_singAlone ma V hV (by rw [g2, upd_n _ _ (by omega)]; exact h1) P hP (by rw [g2, upd_n _ _ (by omega)]; exact h2) s (by omega) (40 * r + i) n (by omega) 0) (fun ms hms => ?_)
                obtain ⟨f2, hms⟩ := hms
                refine e_aload_n dX4_modes_128 rfl ?_
                refine e_getR (o := 4) (b := 102) dX4_modes_129 lkX4_19 rfl rfl (by decide) rfl ?_
                refine e_bipush (v := 36) dX4_modes_132 rfl ?_
                refine e_iload_n dX4_modes_134 rfl ?_
                refine e_iadd dX4_modes_135 ?_
                refine e_iald dX4_modes_136 rfl (36 + p) (j_add rfl rfl) (by omega) (by decide) ?_
                rw [show ms 102 (36 + p) = aloneB (upd (m 102) (21 + p) (nI (127 - u))) s (fun j => m 101 (40 * r + i + j)) 0 V P n (36 + p) from by rw [hms, jup_s, g2, g1]]
                refine e_iload dX4_modes_137 rfl ?_
                refine e_icmp_ne 146 dX4_modes_139 (by decide) (fun c139 => ?_) (fun c139 => ?_)
                · refine e_iconst (v := 0) dX4_modes_146 rfl ?_
                  refine e_istore (L' := [some (.ref 98), some (.int (nI p)), some (.int (nI s)), some (.int (nI r)), some (.int (nI i)), some (.int (nI n)), some (.int th), some (.int w), some (.int 0), some (.int (nI (cntD (mdP (m 102) (fun j => m 101 (40 * r + i + j)) s n V P p th) u))), some (.int (lstD (mdP (m 102) (fun j => m 101 (40 * r + i + j)) s n V P p th) u)), some (.int (nI (127 - u))), some (.int 0)]) dX4_modes_147 (Nat.le_of_ble_eq_true rfl) (Nat.le_of_ble_eq_true rfl) (jnl_at (i := 11) rfl) rfl ?_
                  refine e_iload dX4_modes_149 rfl ?_
                  refine e_iload dX4_modes_151 rfl ?_
                  refine e_if_eq 160 dX4_modes_153 (by decide) (fun c153 => ?_) (fun h => absurd h (by decide))
                  refine e_iconst (v := 0) dX4_modes_160 rfl ?_
                  refine e_iadd dX4_modes_161 ?_
                  rw [show (nI (cntD (mdP (m 102) (fun j => m 101 (40 * r + i + j)) s n V P p th) u)) + 0 = nI (cntD (mdP (m 102) (fun j => m 101 (40 * r + i + j)) s n V P p th) u + 0) from by first | exact nI_1 _ | (show nI _ + nI 0 = _; exact nI_add _ _)]
                  refine e_istore (L' := [some (.ref 98), some (.int (nI p)), some (.int (nI s)), some (.int (nI r)), some (.int (nI i)), some (.int (nI n)), some (.int th), some (.int w), some (.int 0), some (.int (nI (cntD (mdP (m 102) (fun j => m 101 (40 * r + i + j)) s n V P p th) u + 0))), some (.int (lstD (mdP (m 102) (fun j => m 101 (40 * r + i + j)) s n V P p th) u)), some (.int (nI (127 - u))), some (.int 0)]) dX4_modes_162 (Nat.le_of_ble_eq_true rfl) (Nat.le_of_ble_eq_true rfl) (jnl_at (i := 8) rfl) rfl ?_
                  refine e_iload dX4_modes_164 rfl ?_
                  refine e_if_eq 174 dX4_modes_166 (by decide) (fun c166 => ?_) (fun h => absurd h (by decide))
                  refine e_iload dX4_modes_174 rfl ?_
                  refine e_istore (L' := [some (.ref 98), some (.int (nI p)), some (.int (nI s)), some (.int (nI r)), some (.int (nI i)), some (.int (nI n)), some (.int th), some (.int w), some (.int 0), some (.int (nI (cntD (mdP (m 102) (fun j => m 101 (40 * r + i + j)) s n V P p th) u + 0))), some (.int (lstD (mdP (m 102) (fun j => m 101 (40 * r + i + j)) s n V P p th) u)), some (.int (nI (127 - u))), some (.int 0)]) dX4_modes_176 (Nat.le_of_ble_eq_true rfl) (Nat.le_of_ble_eq_true rfl) (jnl_at (i := 9) rfl) rfl ?_
                  refine e_aload_n dX4_modes_178 rfl ?_
                  refine e_callVv (n := 0) mX4_takeBack [] dX4_modes_179 ckX4_193 rfl (by decide +kernel) rfl rfl rfl rfl (Nat.le_of_ble_eq_true rfl) ⟨Nat.zero_le _, Nat.zero_le _⟩ (s_takeBack ms) (fun mt hmt => ?_)
                  refine e_iinc (v := (nI (127 - u)) + (-1)) (L' := [some (.ref 98), some (.int (nI p)), some (.int (nI s)), some (.int (nI r)), some (.int (nI i)), some (.int (nI n)), some (.int th), some (.int w), some (.int 0), some (.int (nI (cntD (mdP (m 102) (fun j => m 101 (40 * r + i + j)) s n V P p th) u + 0))), some (.int (lstD (mdP (m 102) (fun j => m 101 (40 * r + i + j)) s n V P p th) u)), some (.int ((nI (127 - u)) + (-1))), some (.int 0)]) dX4_modes_182 rfl rfl (by decide) (jnl_at (i := 10) rfl) rfl ?_
                  refine e_goto 97 dX4_modes_185 (by decide) ?_
                  refine e_weak [some (.ref 98), some (.int (nI p)), some (.int (nI s)), some (.int (nI r)), some (.int (nI i)), some (.int (nI n)), some (.int th), some (.int w), some (.int 0), some (.int (nI (cntD (mdP (m 102) (fun j => m 101 (40 * r + i + j)) s n V P p th) u + 0))), some (.int (lstD (mdP (m 102) (fun j => m 101 (40 * r + i + j)) s n V P p th) u)), some (.int ((nI (127 - u)) + (-1))), none] (by simp [jle]) ?_
                  have eD : mdP (m 102) (fun j => m 101 (40 * r + i + j)) s n V P p th (127 - u) = false := decide_eq_false c139
                  have eC : cntD (mdP (m 102) (fun j => m 101 (40 * r + i + j)) s n V P p th) (u + 1) = cntD (mdP (m 102) (fun j => m 101 (40 * r + i + j)) s n V P p th) u + 0 := by
                    show cntD _ u + (if mdP (m 102) (fun j => m 101 (40 * r + i + j)) s n V P p th (127 - u) = true then 1 else 0) = _
                    rw [eD]
                    rfl
                  have eS : lstD (mdP (m 102) (fun j => m 101 (40 * r + i + j)) s n V P p th) (u + 1) = lstD (mdP (m 102) (fun j => m 101 (40 * r + i + j)) s n V P p th) u := by
                    show (if mdP (m 102) (fun j => m 101 (40 * r + i + j)) s n V P p th (127 - u) = true then _ else _) = _
                    rw [eD]
                    rfl
                  refine e_start (by simp only [eC, eS, m_dec u hk]) rfl (ih f2 mt ?_)
                  rw [← hmt, hms, g2, g1, hma, hI, jup_swp]
                  refine bak_ex m f2 _ (fun j hj => ?_)
                  rw [aloneB_hi hV hP hj]
                  exact upd_n _ _ (by omega)
                · refine e_iconst (v := 1) dX4_modes_142 rfl ?_
                  refine e_goto 147 dX4_modes_143 (by decide) ?_
                  refine e_istore (L' := [some (.ref 98), some (.int (nI p)), some (.int (nI s)), some (.int (nI r)), some (.int (nI i)), some (.int (nI n)), some (.int th), some (.int w), some (.int 0), some (.int (nI (cntD (mdP (m 102) (fun j => m 101 (40 * r + i + j)) s n V P p th) u))), some (.int (lstD (mdP (m 102) (fun j => m 101 (40 * r + i + j)) s n V P p th) u)), some (.int (nI (127 - u))), some (.int 1)]) dX4_modes_147 (Nat.le_of_ble_eq_true rfl) (Nat.le_of_ble_eq_true rfl) (jnl_at (i := 11) rfl) rfl ?_
                  refine e_iload dX4_modes_149 rfl ?_
                  refine e_iload dX4_modes_151 rfl ?_
                  refine e_if_eq 160 dX4_modes_153 (by decide) (fun h => absurd h (by decide)) (fun c153 => ?_)
                  refine e_iconst (v := 1) dX4_modes_156 rfl ?_
                  refine e_goto 161 dX4_modes_157 (by decide) ?_
                  refine e_iadd dX4_modes_161 ?_
                  rw [show (nI (cntD (mdP (m 102) (fun j => m 101 (40 * r + i + j)) s n V P p th) u)) + 1 = nI (cntD (mdP (m 102) (fun j => m 101 (40 * r + i + j)) s n V P p th) u + 1) from by first | exact nI_1 _ | (show nI _ + nI 0 = _; exact nI_add _ _)]
                  refine e_istore (L' := [some (.ref 98), some (.int (nI p)), some (.int (nI s)), some (.int (nI r)), some (.int (nI i)), some (.int (nI n)), some (.int th), some (.int w), some (.int 0), some (.int (nI (cntD (mdP (m 102) (fun j => m 101 (40 * r + i + j)) s n V P p th) u + 1))), some (.int (lstD (mdP (m 102) (fun j => m 101 (40 * r + i + j)) s n V P p th) u)), some (.int (nI (127 - u))), some (.int 1)]) dX4_modes_162 (Nat.le_of_ble_eq_true rfl) (Nat.le_of_ble_eq_true rfl) (jnl_at (i := 8) rfl) rfl ?_
                  refine e_iload dX4_modes_164 rfl ?_
                  refine e_if_eq 174 dX4_modes_166 (by decide) (fun h => absurd h (by decide)) (fun c166 => ?_)
                  refine e_iload dX4_modes_169 rfl ?_
                  refine e_goto 176 dX4_modes_171 (by decide) ?_
                  refine e_istore (L' := [some (.ref 98), some (.int (nI p)), some (.int (nI s)), some (.int (nI r)), some (.int (nI i)), some (.int (nI n)), some (.int th), some (.int w), some (.int 0), some (.int (nI (cntD (mdP (m 102) (fun j => m 101 (40 * r + i + j)) s n V P p th) u + 1))), some (.int (nI (127 - u))), some (.int (nI (127 - u))), some (.int 1)]) dX4_modes_176 (Nat.le_of_ble_eq_true rfl) (Nat.le_of_ble_eq_true rfl) (jnl_at (i := 9) rfl) rfl ?_
                  refine e_aload_n dX4_modes_178 rfl ?_
                  refine e_callVv (n := 0) mX4_takeBack [] dX4_modes_179 ckX4_193 rfl (by decide +kernel) rfl rfl rfl rfl (Nat.le_of_ble_eq_true rfl) ⟨Nat.zero_le _, Nat.zero_le _⟩ (s_takeBack ms) (fun mt hmt => ?_)
                  refine e_iinc (v := (nI (127 - u)) + (-1)) (L' := [some (.ref 98), some (.int (nI p)), some (.int (nI s)), some (.int (nI r)), some (.int (nI i)), some (.int (nI n)), some (.int th), some (.int w), some (.int 0), some (.int (nI (cntD (mdP (m 102) (fun j => m 101 (40 * r + i + j)) s n V P p th) u + 1))), some (.int (nI (127 - u))), some (.int ((nI (127 - u)) + (-1))), some (.int 1)]) dX4_modes_182 rfl rfl (by decide) (jnl_at (i := 10) rfl) rfl ?_
                  refine e_goto 97 dX4_modes_185 (by decide) ?_
                  refine e_weak [some (.ref 98), some (.int (nI p)), some (.int (nI s)), some (.int (nI r)), some (.int (nI i)), some (.int (nI n)), some (.int th), some (.int w), some (.int 0), some (.int (nI (cntD (mdP (m 102) (fun j => m 101 (40 * r + i + j)) s n V P p th) u + 1))), some (.int (nI (127 - u))), some (.int ((nI (127 - u)) + (-1))), none] (by simp [jle]) ?_
                  have eD : mdP (m 102) (fun j => m 101 (40 * r + i + j)) s n V P p th (127 - u) = true := decide_eq_true c139
                  have eC : cntD (mdP (m 102) (fun j => m 101 (40 * r + i + j)) s n V P p th) (u + 1) = cntD (mdP (m 102) (fun j => m 101 (40 * r + i + j)) s n V P p th) u + 1 := by
                    show cntD _ u + (if mdP (m 102) (fun j => m 101 (40 * r + i + j)) s n V P p th (127 - u) = true then 1 else 0) = _
                    rw [eD]
                    rfl
                  have eS : lstD (mdP (m 102) (fun j => m 101 (40 * r + i + j)) s n V P p th) (u + 1) = nI (127 - u) := by
                    show (if mdP (m 102) (fun j => m 101 (40 * r + i + j)) s n V P p th (127 - u) = true then _ else _) = _
                    rw [eD]
                    rfl
                  refine e_start (by simp only [eC, eS, m_dec u hk]) rfl (ih f2 mt ?_)
                  rw [← hmt, hms, g2, g1, hma, hI, jup_swp]
                  refine bak_ex m f2 _ (fun j hj => ?_)
                  rw [aloneB_hi hV hP hj]
                  exact upd_n _ _ (by omega)
            · exact False.elim (q3 hw2)
          · exact False.elim (q7 hth)
        · exact False.elim (q2 (inN_nI (by decide) (by omega)))
      · exact False.elim (q1 (inN_nI (by decide) hr))
    · exact False.elim (q6 (inN_nI (by omega) hs))
  · exact False.elim (q5 (inN_nI (by omega) hp))
