theorem shB_no {st tn : Nat → Int32} {d n V P p k : Nat} (h : ¬ shP st tn d n V P p k = true) : shB st tn d n V P p (k + 1) = shB st tn d n V P p k := if_neg (fun q => h q.2)
theorem shB_n0 {st tn : Nat → Int32} {d n V P p k : Nat} (h : ¬ nI k &&& (st (31 + p) ^^^ (-1)) = 0) : shB st tn d n V P p (k + 1) = shB st tn d n V P p k := if_neg (fun q => h q.1.1)
theorem shB_y0 {st tn : Nat → Int32} {d n V P p k : Nat} (h : nI k &&& (st (31 + p) ^^^ (-1)) = 0) (hb : shB st tn d n V P p k = none) (hs : shP st tn d n V P p k = true) : shB st tn d n V P p (k + 1) = some k := if_pos ⟨⟨h, by rw [hb]⟩, hs⟩
theorem shB_y1 {st tn : Nat → Int32} {d n V P p k b : Nat} (h : nI k &&& (st (31 + p) ^^^ (-1)) = 0) (hb : shB st tn d n V P p k = some b) (hl : popc k < popc b) (hs : shP st tn d n V P p k = true) : shB st tn d n V P p (k + 1) = some k := if_pos ⟨⟨h, by rw [hb]; exact decide_eq_true hl⟩, hs⟩
theorem shB_ge {st tn : Nat → Int32} {d n V P p k b : Nat} (hb : shB st tn d n V P p k = some b) (h : ¬ popc k < popc b) : shB st tn d n V P p (k + 1) = shB st tn d n V P p k := if_neg (fun q => by
  have := q.1.2
  rw [hb] at this
  exact h (of_decide_eq_true this))
theorem popc_le (k : Nat) : popc k ≤ 8 := by unfold popc; omega
theorem j_opt {α : Type} (o : Option α) : o = none ∨ ∃ b, o = some b := by cases o with
  | none => exact Or.inl rfl
  | some b => exact Or.inr ⟨b, rfl⟩
def shV (b : Option Nat) (w : Int32) : Int32 := match b with
  | none => -1000000
  | some k => if w = 0 then nI (popc k) else nI k
/-! coughs -/
def prN (c k : Nat) : Nat → Nat
  | 0 => 1
  | j + 1 => prN c k j * (if k / 2 ^ j % 2 = 1 then c else 10 - c)
def smN (f : Nat → Nat) : Nat → Nat
  | 0 => 0
  | k + 1 => smN f k + f k
def cgP (st tn : Nat → Int32) (s n V P p set : Nat) : Bool := decide (aloneB st s tn (nI set) V P n (41 + p) = 1)
def cgF (st tn : Nat → Int32) (s n V P p c : Nat) (k : Nat) : Nat := if cgP st tn s n V P p k = true then prN c k n else 0
theorem smN_le {f g : Nat → Nat} (h : ∀ k, f k ≤ g k) : ∀ n, smN f n ≤ smN g n
  | 0 => Nat.le_refl _
  | n + 1 => Nat.add_le_add (smN_le h n) (h n)
theorem cg_all : ∀ c, c < 11 → ∀ n, n < 9 → smN (fun k => prN c k n) (2 ^ n) = 10 ^ n := by
  intro c hc n hn
  have h : (List.range 11).all (fun c => (List.range 9).all (fun n => decide (smN (fun k => prN c k n) (2 ^ n) = 10 ^ n))) = true := by decide +kernel
  exact of_decide_eq_true (List.all_eq_true.mp (List.all_eq_true.mp h c (List.mem_range.mpr hc)) n (List.mem_range.mpr hn))
theorem cg_le (st tn : Nat → Int32) (s n V P p c : Nat) (hc : c < 11) (hn : n < 9) : smN (cgF st tn s n V P p c) (2 ^ n) ≤ 10 ^ n := by
  rw [← cg_all c hc n hn]
  refine smN_le (fun k => ?_) _
  unfold cgF
  split
  · exact Nat.le_refl _
  · exact Nat.zero_le _
theorem btI_N {k j : Nat} (hk : k < 256) (hj : j < 8) : btI (nI k) (nI j) = decide (k / 2 ^ j % 2 = 1) := by
  have : (List.range 256).all (fun k => (List.range 8).all (fun j => decide (btI (nI k) (nI j) = decide (k / 2 ^ j % 2 = 1)))) = true := by decide +kernel
  exact of_decide_eq_true (List.all_eq_true.mp (List.all_eq_true.mp this k (List.mem_range.mpr hk)) j (List.mem_range.mpr hj))
theorem ten_le {n : Nat} (hn : n ≤ 8) : 10 ^ n ≤ 100000000 := Nat.pow_le_pow_right (n := 10) (by decide) hn
theorem two_le {n : Nat} (hn : n ≤ 8) : 2 ^ n ≤ 256 := Nat.pow_le_pow_right (n := 2) (by decide) hn
theorem j_shl1 {n : Nat} (hn : n ≤ 8) : (1 : Int32) <<< (nI n &&& 31) = nI (2 ^ n) := co_dec (P := fun n => (1 : Int32) <<< (nI n &&& 31) = nI (2 ^ n)) (N := 9) (by decide +kernel) (by omega)
set_option maxHeartbeats 2000000 in
set_option maxRecDepth 20000 in
theorem s_Dshut_b (m : jM) (P : Nat) (hP : P ≤ 5) (h2 : m 102 2 = nI P) (x y z i n w : Int32) (hb : ¬ (inN x P ∧ inN y 9 ∧ inN z 8 ∧ inN n 17 ∧ inN w 2)) : iX mX4_toShut [.ref 98, .int x, .int y, .int z, .int i, .int n, .int w] m (fun v m1 => v = -1000001 ∧ m = m1) := by
  refine jX_of (L := [some (.ref 98), some (.int x), some (.int y), some (.int z), some (.int i), some (.int n), some (.int w), none, none, none, none]) 4 rfl rfl (by decide +kernel) rfl ?_
  refine e_aload_n dX4_toShut_0 rfl ?_
  refine e_iload_n dX4_toShut_1 rfl ?_
  refine e_callVi (n := 1) mX4_isPan [.int x] dX4_toShut_2 ckX4_171 rfl (by decide +kernel) rfl rfl rfl rfl (Nat.le_of_ble_eq_true rfl) ⟨Nat.zero_le _, Nat.zero_le _⟩ (s_panN x m P hP h2) (fun v2 m1 hm1 => ?_)
  rcases hm1 with ⟨rfl, ⟨rfl, q⟩ | ⟨rfl, q⟩⟩
  · refine e_if_eq 51 dX4_toShut_5 (by decide) (fun h => absurd h (by decide)) (fun c5 => ?_)
    refine e_iload_n dX4_toShut_8 rfl ?_
    refine e_i2l dX4_toShut_9 ?_
    refine e_lconst (v := 0) dX4_toShut_10 rfl ?_
    refine e_ldc2 dX4_toShut_11 kkX4_196 ?_
    refine e_callSi (n := 3) mX4_in [.long (Int32.toInt64 y), .long 0, .long (8)] dX4_toShut_14 ckX4_60 rfl (by decide +kernel) rfl rfl (Nat.le_of_ble_eq_true rfl) ⟨Nat.zero_le _, Nat.zero_le _⟩ (s_inN y (8) 9 (by decide) (by decide) m) (fun v14 m2 hm2 => ?_)
    rcases hm2 with ⟨rfl, ⟨rfl, q1⟩ | ⟨rfl, q1⟩⟩
    · refine e_if_eq 51 dX4_toShut_17 (by decide) (fun h => absurd h (by decide)) (fun c17 => ?_)
      refine e_iload_n dX4_toShut_20 rfl ?_
      refine e_callSi (n := 1) mX4_isRow [.int z] dX4_toShut_21 ckX4_64 rfl (by decide +kernel) rfl rfl (Nat.le_of_ble_eq_true rfl) ⟨Nat.zero_le _, Nat.zero_le _⟩ (s_rowN z m) (fun v21 m3 hm3 => ?_)
      rcases hm3 with ⟨rfl, ⟨rfl, q2⟩ | ⟨rfl, q2⟩⟩
      · refine e_if_eq 51 dX4_toShut_24 (by decide) (fun h => absurd h (by decide)) (fun c24 => ?_)
        refine e_iload dX4_toShut_27 rfl ?_
        refine e_i2l dX4_toShut_29 ?_
        refine e_lconst (v := 0) dX4_toShut_30 rfl ?_
        refine e_ldc2 dX4_toShut_31 kkX4_180 ?_
        refine e_callSi (n := 3) mX4_in [.long (Int32.toInt64 n), .long 0, .long (16)] dX4_toShut_34 ckX4_60 rfl (by decide +kernel) rfl rfl (Nat.le_of_ble_eq_true rfl) ⟨Nat.zero_le _, Nat.zero_le _⟩ (s_inN n (16) 17 (by decide) (by decide) m) (fun v34 m4 hm4 => ?_)
        rcases hm4 with ⟨rfl, ⟨rfl, q3⟩ | ⟨rfl, q3⟩⟩
        · refine e_if_eq 51 dX4_toShut_37 (by decide) (fun h => absurd h (by decide)) (fun c37 => ?_)
          refine e_iload dX4_toShut_40 rfl ?_
          refine e_i2l dX4_toShut_42 ?_
          refine e_lconst (v := 0) dX4_toShut_43 rfl ?_
          refine e_lconst (v := 1) dX4_toShut_44 rfl ?_
          refine e_callSi (n := 3) mX4_in [.long (Int32.toInt64 w), .long 0, .long 1] dX4_toShut_45 ckX4_60 rfl (by decide +kernel) rfl rfl (Nat.le_of_ble_eq_true rfl) ⟨Nat.zero_le _, Nat.zero_le _⟩ (s_inN w 1 2 (by decide) (by decide) m) (fun v45 m5 hm5 => ?_)
          rcases hm5 with ⟨rfl, ⟨rfl, q4⟩ | ⟨rfl, q4⟩⟩
          · exact False.elim (hb ⟨q, q1, q2, q3, q4⟩)
          · refine e_if_ne 54 dX4_toShut_48 (by decide) (fun h => absurd h (by decide)) (fun c48 => ?_)
            refine e_ldc dX4_toShut_51 kkX4_70 ?_
            exact e_iret dX4_toShut_53 rfl (⟨rfl, rfl⟩)
        · refine e_if_eq 51 dX4_toShut_37 (by decide) (fun c37 => ?_) (fun h => absurd h (by decide))
          refine e_ldc dX4_toShut_51 kkX4_70 ?_
          exact e_iret dX4_toShut_53 rfl (⟨rfl, rfl⟩)
      · refine e_if_eq 51 dX4_toShut_24 (by decide) (fun c24 => ?_) (fun h => absurd h (by decide))
        refine e_ldc dX4_toShut_51 kkX4_70 ?_
        exact e_iret dX4_toShut_53 rfl (⟨rfl, rfl⟩)
    · refine e_if_eq 51 dX4_toShut_17 (by decide) (fun c17 => ?_) (fun h => absurd h (by decide))
      refine e_ldc dX4_toShut_51 kkX4_70 ?_
      exact e_iret dX4_toShut_53 rfl (⟨rfl, rfl⟩)
  · refine e_if_eq 51 dX4_toShut_5 (by decide) (fun c5 => ?_) (fun h => absurd h (by decide))
    refine e_ldc dX4_toShut_51 kkX4_70 ?_
    exact e_iret dX4_toShut_53 rfl (⟨rfl, rfl⟩)

set_option maxHeartbeats 2000000 in
set_option maxRecDepth 20000 in
theorem s_Dshut_f (m : jM) (P : Nat) (hP : P ≤ 5) (h2 : m 102 2 = nI P) (p : Nat) (hp : p < P) (d : Nat) (hd : d ≤ 8) (r : Nat) (hr : r < 8) (n : Nat) (hn : n ≤ 16) (w : Int32) (hw2 : inN w 2) (i : Int32) (hsz : szOK m r) (htn : ¬ tuneOK m r i n) : iX mX4_toShut [.ref 98, .int (nI p), .int (nI d), .int (nI r), .int i, .int (nI n), .int w] m (fun v m1 => v = lackV m r i n ∧ lackM m r i n = m1) := by
  refine jX_of (L := [some (.ref 98), some (.int (nI p)), some (.int (nI d)), some (.int (nI r)), some (.int i), some (.int (nI n)), some (.int w), none, none, none, none]) 4 rfl rfl (by decide +kernel) rfl ?_
  refine e_aload_n dX4_toShut_0 rfl ?_
  refine e_iload_n dX4_toShut_1 rfl ?_
  refine e_callVi (n := 1) mX4_isPan [.int (nI p)] dX4_toShut_2 ckX4_171 rfl (by decide +kernel) rfl rfl rfl rfl (Nat.le_of_ble_eq_true rfl) ⟨Nat.zero_le _, Nat.zero_le _⟩ (s_panN (nI p) m P hP h2) (fun v2 m1 hm1 => ?_)
  rcases hm1 with ⟨rfl, ⟨rfl, q5⟩ | ⟨rfl, q5⟩⟩
  · refine e_if_eq 51 dX4_toShut_5 (by decide) (fun h => absurd h (by decide)) (fun c5 => ?_)
    refine e_iload_n dX4_toShut_8 rfl ?_
    refine e_i2l dX4_toShut_9 ?_
    refine e_lconst (v := 0) dX4_toShut_10 rfl ?_
    refine e_ldc2 dX4_toShut_11 kkX4_196 ?_
    refine e_callSi (n := 3) mX4_in [.long (Int32.toInt64 (nI d)), .long 0, .long (8)] dX4_toShut_14 ckX4_60 rfl (by decide +kernel) rfl rfl (Nat.le_of_ble_eq_true rfl) ⟨Nat.zero_le _, Nat.zero_le _⟩ (s_inN (nI d) (8) 9 (by decide) (by decide) m) (fun v14 m2 hm2 => ?_)
    rcases hm2 with ⟨rfl, ⟨rfl, q6⟩ | ⟨rfl, q6⟩⟩
    · refine e_if_eq 51 dX4_toShut_17 (by decide) (fun h => absurd h (by decide)) (fun c17 => ?_)
      refine e_iload_n dX4_toShut_20 rfl ?_
      refine e_callSi (n := 1) mX4_isRow [.int (nI r)] dX4_toShut_21 ckX4_64 rfl (by decide +kernel) rfl rfl (Nat.le_of_ble_eq_true rfl) ⟨Nat.zero_le _, Nat.zero_le _⟩ (s_rowN (nI r) m) (fun v21 m3 hm3 => ?_)
      rcases hm3 with ⟨rfl, ⟨rfl, q1⟩ | ⟨rfl, q1⟩⟩
      · refine e_if_eq 51 dX4_toShut_24 (by decide) (fun h => absurd h (by decide)) (fun c24 => ?_)
        refine e_iload dX4_toShut_27 rfl ?_
        refine e_i2l dX4_toShut_29 ?_
        refine e_lconst (v := 0) dX4_toShut_30 rfl ?_
        refine e_ldc2 dX4_toShut_31 kkX4_180 ?_
        refine e_callSi (n := 3) mX4_in [.long (Int32.toInt64 (nI n)), .long 0, .long (16)] dX4_toShut_34 ckX4_60 rfl (by decide +kernel) rfl rfl (Nat.le_of_ble_eq_true rfl) ⟨Nat.zero_le _, Nat.zero_le _⟩ (s_inN (nI n) (16) 17 (by decide) (by decide) m) (fun v34 m4 hm4 => ?_)
        rcases hm4 with ⟨rfl, ⟨rfl, q2⟩ | ⟨rfl, q2⟩⟩
        · refine e_if_eq 51 dX4_toShut_37 (by decide) (fun h => absurd h (by decide)) (fun c37 => ?_)
          refine e_iload dX4_toShut_40 rfl ?_
          refine e_i2l dX4_toShut_42 ?_
          refine e_lconst (v := 0) dX4_toShut_43 rfl ?_
          refine e_lconst (v := 1) dX4_toShut_44 rfl ?_
          refine e_callSi (n := 3) mX4_in [.long (Int32.toInt64 w), .long 0, .long 1] dX4_toShut_45 ckX4_60 rfl (by decide +kernel) rfl rfl (Nat.le_of_ble_eq_true rfl) ⟨Nat.zero_le _, Nat.zero_le _⟩ (s_inN w 1 2 (by decide) (by decide) m) (fun v45 m5 hm5 => ?_)
          rcases hm5 with ⟨rfl, ⟨rfl, q3⟩ | ⟨rfl, q3⟩⟩
          · refine e_if_ne 54 dX4_toShut_48 (by decide) (fun c48 => ?_) (fun h => absurd h (by decide))
            refine e_aload_n dX4_toShut_54 rfl ?_
            refine e_iload_n dX4_toShut_55 rfl ?_
            refine e_iload dX4_toShut_56 rfl ?_
            refine e_iload dX4_toShut_58 rfl ?_
            refine e_callVi (n := 3) mX4_lacks [.int (nI r), .int i, .int (nI n)] dX4_toShut_60 ckX4_182 rfl (by decide +kernel) rfl rfl rfl rfl (Nat.le_of_ble_eq_true rfl) ⟨Nat.zero_le _, Nat.zero_le _⟩ (s_lacksF m r hr n hn i hsz htn) (fun v60 ml hml => ?_)
            obtain ⟨rfl, hlk⟩ := hml
            refine e_istore (L' := [some (.ref 98), some (.int (nI p)), some (.int (nI d)), some (.int (nI r)), some (.int i), some (.int (nI n)), some (.int w), some (.int (lackV m r i n)), none, none, none]) dX4_toShut_63 (Nat.le_of_ble_eq_true rfl) (Nat.le_of_ble_eq_true rfl) (jnl_at (i := 6) rfl) rfl ?_
            refine e_iload dX4_toShut_65 rfl ?_
            refine e_if_ge 73 dX4_toShut_67 (by decide) (fun h => absurd (lackV_neg m r i n) (Int32.not_lt.mpr h)) (fun c67 => ?_)
            refine e_iload dX4_toShut_70 rfl ?_
            exact e_iret dX4_toShut_72 rfl (⟨rfl, hlk⟩)
          · exact False.elim (q3 hw2)
        · exact False.elim (q2 (inN_nI (by decide) (by omega)))
      · exact False.elim (q1 (inN_nI (by decide) hr))
    · exact False.elim (q6 (inN_nI (by decide) (by omega)))
  · exact False.elim (q5 (inN_nI (by omega) hp))

set_option maxHeartbeats 2000000 in
set_option maxRecDepth 20000 in
theorem s_Dshut (m : jM) (V : Nat) (hV : V ≤ 3) (h1 : m 102 1 = nI V) (P : Nat) (hP : P ≤ 5) (h2 : m 102 2 = nI P) (p : Nat) (hp : p < P) (d : Nat) (hd : d ≤ 8) (r : Nat) (hr : r < 8) (n : Nat) (hn : n ≤ 16) (w : Int32) (hw2 : inN w 2) (i k : Nat) (hk : k ≤ 40) (hsz : m 100 r = nI k) (hik : i + n ≤ k) (hgd : goodB (m 101) (40 * r + i) n = true) : iX mX4_toShut [.ref 98, .int (nI p), .int (nI d), .int (nI r), .int (nI i), .int (nI n), .int w] m (fun v m1 => v = shV (shB (m 102) (fun j => m 101 (40 * r + i + j)) d n V P p 8) w ∧ ∃ f, jst (jup (asdM m) 106 f) 98 3 0 = m1) := by
  refine jX_of (L := [some (.ref 98), some (.int (nI p)), some (.int (nI d)), some (.int (nI r)), some (.int (nI i)), some (.int (nI n)), some (.int w), none, none, none, none]) 4 rfl rfl (by decide +kernel) rfl ?_
  refine e_aload_n dX4_toShut_0 rfl ?_
  refine e_iload_n dX4_toShut_1 rfl ?_
  refine e_callVi (n := 1) mX4_isPan [.int (nI p)] dX4_toShut_2 ckX4_171 rfl (by decide +kernel) rfl rfl rfl rfl (Nat.le_of_ble_eq_true rfl) ⟨Nat.zero_le _, Nat.zero_le _⟩ (s_panN (nI p) m P hP h2) (fun v2 m1 hm1 => ?_)
  rcases hm1 with ⟨rfl, ⟨rfl, q5⟩ | ⟨rfl, q5⟩⟩
  · refine e_if_eq 51 dX4_toShut_5 (by decide) (fun h => absurd h (by decide)) (fun c5 => ?_)
    refine e_iload_n dX4_toShut_8 rfl ?_
    refine e_i2l dX4_toShut_9 ?_
    refine e_lconst (v := 0) dX4_toShut_10 rfl ?_
    refine e_ldc2 dX4_toShut_11 kkX4_196 ?_
    refine e_callSi (n := 3) mX4_in [.long (Int32.toInt64 (nI d)), .long 0, .long (8)] dX4_toShut_14 ckX4_60 rfl (by decide +kernel) rfl rfl (Nat.le_of_ble_eq_true rfl) ⟨Nat.zero_le _, Nat.zero_le _⟩ (s_inN (nI d) (8) 9 (by decide) (by decide) m) (fun v14 m2 hm2 => ?_)
    rcases hm2 with ⟨rfl, ⟨rfl, q6⟩ | ⟨rfl, q6⟩⟩
    · refine e_if_eq 51 dX4_toShut_17 (by decide) (fun h => absurd h (by decide)) (fun c17 => ?_)
      refine e_iload_n dX4_toShut_20 rfl ?_
      refine e_callSi (n := 1) mX4_isRow [.int (nI r)] dX4_toShut_21 ckX4_64 rfl (by decide +kernel) rfl rfl (Nat.le_of_ble_eq_true rfl) ⟨Nat.zero_le _, Nat.zero_le _⟩ (s_rowN (nI r) m) (fun v21 m3 hm3 => ?_)
      rcases hm3 with ⟨rfl, ⟨rfl, q1⟩ | ⟨rfl, q1⟩⟩
      · refine e_if_eq 51 dX4_toShut_24 (by decide) (fun h => absurd h (by decide)) (fun c24 => ?_)
        refine e_iload dX4_toShut_27 rfl ?_
        refine e_i2l dX4_toShut_29 ?_
        refine e_lconst (v := 0) dX4_toShut_30 rfl ?_
        refine e_ldc2 dX4_toShut_31 kkX4_180 ?_
        refine e_callSi (n := 3) mX4_in [.long (Int32.toInt64 (nI n)), .long 0, .long (16)] dX4_toShut_34 ckX4_60 rfl (by decide +kernel) rfl rfl (Nat.le_of_ble_eq_true rfl) ⟨Nat.zero_le _, Nat.zero_le _⟩ (s_inN (nI n) (16) 17 (by decide) (by decide) m) (fun v34 m4 hm4 => ?_)
        rcases hm4 with ⟨rfl, ⟨rfl, q2⟩ | ⟨rfl, q2⟩⟩
        · refine e_if_eq 51 dX4_toShut_37 (by decide) (fun h => absurd h (by decide)) (fun c37 => ?_)
          refine e_iload dX4_toShut_40 rfl ?_
          refine e_i2l dX4_toShut_42 ?_
          refine e_lconst (v := 0) dX4_toShut_43 rfl ?_
          refine e_lconst (v := 1) dX4_toShut_44 rfl ?_
          refine e_callSi (n := 3) mX4_in [.long (Int32.toInt64 w), .long 0, .long 1] dX4_toShut_45 ckX4_60 rfl (by decide +kernel) rfl rfl (Nat.le_of_ble_eq_true rfl) ⟨Nat.zero_le _, Nat.zero_le _⟩ (s_inN w 1 2 (by decide) (by decide) m) (fun v45 m5 hm5 => ?_)
          rcases hm5 with ⟨rfl, ⟨rfl, q3⟩ | ⟨rfl, q3⟩⟩
          · refine e_if_ne 54 dX4_toShut_48 (by decide) (fun c48 => ?_) (fun h => absurd h (by decide))
            refine e_aload_n dX4_toShut_54 rfl ?_
            refine e_iload_n dX4_toShut_55 rfl ?_
            refine e_iload dX4_toShut_56 rfl ?_
            refine e_iload dX4_toShut_58 rfl ?_
            refine e_callVi (n := 3) mX4_lacks [.int (nI r), .int (nI i), .int (nI n)] dX4_toShut_60 ckX4_182 rfl (by decide +kernel) rfl rfl rfl rfl (Nat.le_of_ble_eq_true rfl) ⟨Nat.zero_le _, Nat.zero_le _⟩ (s_lacksT m r hr n hn i k hk hsz hik hgd) (fun v60 m6 hm6 => ?_)
            obtain ⟨rfl, rfl⟩ := hm6
            refine e_istore (L' := [some (.ref 98), some (.int (nI p)), some (.int (nI d)), some (.int (nI r)), some (.int (nI i)), some (.int (nI n)), some (.int w), some (.int 0), none, none, none]) dX4_toShut_63 (Nat.le_of_ble_eq_true rfl) (Nat.le_of_ble_eq_true rfl) (jnl_at (i := 6) rfl) rfl ?_
            refine e_iload dX4_toShut_65 rfl ?_
            refine e_if_ge 73 dX4_toShut_67 (by decide) (fun c67 => ?_) (fun h => absurd h (by decide))
            refine e_aload_n dX4_toShut_73 rfl ?_
            refine e_callVv (n := 0) mX4_putAside [] dX4_toShut_74 ckX4_186 rfl (by decide +kernel) rfl rfl rfl rfl (Nat.le_of_ble_eq_true rfl) ⟨Nat.zero_le _, Nat.zero_le _⟩ (s_putAside m) (fun mp hmp => ?_)
            refine e_aload_n dX4_toShut_77 rfl ?_
            refine e_getR (o := 4) (b := 102) dX4_toShut_78 lkX4_19 rfl rfl (by decide) rfl ?_
            refine e_bipush (v := 31) dX4_toShut_81 rfl ?_
            refine e_iload_n dX4_toShut_83 rfl ?_
            refine e_iadd dX4_toShut_84 ?_
            refine e_iald dX4_toShut_85 rfl (31 + p) (j_add rfl rfl) (by omega) (by decide) ?_
            rw [show mp 102 (31 + p) = m 102 (31 + p) from by rw [← hmp]; exact congrFun (jup_n _ _ (by decide)) _]
            refine e_istore (L' := [some (.ref 98), some (.int (nI p)), some (.int (nI d)), some (.int (nI r)), some (.int (nI i)), some (.int (nI n)), some (.int w), some (.int 0), some (.int (m 102 (31 + p))), none, none]) dX4_toShut_86 (Nat.le_of_ble_eq_true rfl) (Nat.le_of_ble_eq_true rfl) (jnl_at (i := 7) rfl) rfl ?_
            refine e_iconst (v := -1) dX4_toShut_88 rfl ?_
            refine e_istore (L' := [some (.ref 98), some (.int (nI p)), some (.int (nI d)), some (.int (nI r)), some (.int (nI i)), some (.int (nI n)), some (.int w), some (.int 0), some (.int (m 102 (31 + p))), some (.int (-1)), none]) dX4_toShut_89 (Nat.le_of_ble_eq_true rfl) (Nat.le_of_ble_eq_true rfl) (jnl_at (i := 8) rfl) rfl ?_
            refine e_iconst (v := 0) dX4_toShut_91 rfl ?_
            refine e_istore (L' := [some (.ref 98), some (.int (nI p)), some (.int (nI d)), some (.int (nI r)), some (.int (nI i)), some (.int (nI n)), some (.int w), some (.int 0), some (.int (m 102 (31 + p))), some (.int (-1)), some (.int 0)]) dX4_toShut_92 (Nat.le_of_ble_eq_true rfl) (Nat.le_of_ble_eq_true rfl) (jnl_at (i := 9) rfl) rfl ?_
            refine e_loopS (σ := Nat → Int32) 94 8 (fun k f => [some (.ref 98), some (.int (nI p)), some (.int (nI d)), some (.int (nI r)), some (.int (nI i)), some (.int (nI n)), some (.int w), some (.int 0), some (.int (m 102 (31 + p))), some (.int (bI (shB (m 102) (fun j => m 101 (40 * r + i + j)) d n V P p k))), some (.int (nI k))]) (fun k f mm => mm = jup (asdM m) 106 f) 0 (mp 106) (Nat.zero_le _) rfl (by rw [← hmp]; exact (jup_id _ _).symm) ?_ ?_
            · intro f mm hI
              show jE _ _ 94 [some (.ref 98), some (.int (nI p)), some (.int (nI d)), some (.int (nI r)), some (.int (nI i)), some (.int (nI n)), some (.int w), some (.int 0), some (.int (m 102 (31 + p))), some (.int (bI (shB (m 102) (fun j => m 101 (40 * r + i + j)) d n V P p 8))), some (.int (nI 8))] [] mm
              refine e_iload dX4_toShut_94 rfl ?_
              refine e_bipush (v := 8) dX4_toShut_96 rfl ?_
              refine e_icmp_ge 191 dX4_toShut_98 (by decide) (fun c98 => ?_) (fun h => absurd (j_done rfl rfl) h)
              refine e_aload_n dX4_toShut_191 rfl ?_
              rcases j_opt (shB (m 102) (fun j => m 101 (40 * r + i + j)) d n V P p 8) with hsb | ⟨b, hsb⟩
              · rw [hsb, show bI none = -1 from rfl]
                refine e_iload dX4_toShut_192 rfl ?_
                refine e_if_ge 202 dX4_toShut_194 (by decide) (fun h => absurd h (by decide)) (fun c194 => ?_)
                refine e_ldc dX4_toShut_197 kkX4_127 ?_
                refine e_goto 217 dX4_toShut_199 (by decide) ?_
                refine e_callVi (n := 1) mX4_well [.int (-1000000)] dX4_toShut_217 ckX4_75 rfl (by decide +kernel) rfl rfl rfl rfl (Nat.le_of_ble_eq_true rfl) ⟨Nat.zero_le _, Nat.zero_le _⟩ (s_well (-1000000) mm) (fun v217 mw hmw => ?_)
                obtain ⟨rfl, hw⟩ := hmw
                exact e_iret dX4_toShut_220 rfl (⟨by unfold shV; first | rfl | (dsimp only; first | rw [if_pos c204] | rw [if_neg c204]), f, by rw [← hw, hI]⟩)
              · have hbk := shB_lt 8 b hsb
                rw [hsb, show bI (some b) = nI b from rfl]
                refine e_iload dX4_toShut_192 rfl ?_
                refine e_if_ge 202 dX4_toShut_194 (by decide) (fun c194 => ?_) (fun h => absurd (nI_pos' (by omega)) h)
                refine e_iload dX4_toShut_202 rfl ?_
                refine e_if_ne 215 dX4_toShut_204 (by decide) (fun c204 => ?_) (fun c204 => ?_)
                · refine e_iload dX4_toShut_215 rfl ?_
                  refine e_callVi (n := 1) mX4_well [.int (nI b)] dX4_toShut_217 ckX4_75 rfl (by decide +kernel) rfl rfl rfl rfl (Nat.le_of_ble_eq_true rfl) ⟨Nat.zero_le _, Nat.zero_le _⟩ (s_well (nI b) mm) (fun v217 mw hmw => ?_)
                  obtain ⟨rfl, hw⟩ := hmw
                  exact e_iret dX4_toShut_220 rfl (⟨by unfold shV; first | rfl | (dsimp only; first | rw [if_pos c204] | rw [if_neg c204]), f, by rw [← hw, hI]⟩)
                · refine e_iload dX4_toShut_207 rfl ?_
                  refine e_callSi (n := 1) mX4_ones [.int (nI b)] dX4_toShut_209 ckX4_202 rfl (by decide +kernel) rfl rfl (Nat.le_of_ble_eq_true rfl) ⟨Nat.zero_le _, Nat.zero_le _⟩ (s_ones mm (b) (by omega)) (fun v209 m10 hm10 => ?_)
                  obtain ⟨rfl, rfl⟩ := hm10
                  refine e_goto 217 dX4_toShut_212 (by decide) ?_
                  refine e_callVi (n := 1) mX4_well [.int (nI (popc (b)))] dX4_toShut_217 ckX4_75 rfl (by decide +kernel) rfl rfl rfl rfl (Nat.le_of_ble_eq_true rfl) ⟨Nat.zero_le _, Nat.zero_le _⟩ (s_well (nI (popc (b))) mm) (fun v217 mw hmw => ?_)
                  obtain ⟨rfl, hw⟩ := hmw
                  exact e_iret dX4_toShut_220 rfl (⟨by unfold shV; first | rfl | (dsimp only; first | rw [if_pos c204] | rw [if_neg c204]), f, by rw [← hw, hI]⟩)
            · intro k hk f mm hI ih
              show jE _ _ 94 [some (.ref 98), some (.int (nI p)), some (.int (nI d)), some (.int (nI r)), some (.int (nI i)), some (.int (nI n)), some (.int w), some (.int 0), some (.int (m 102 (31 + p))), some (.int (bI (shB (m 102) (fun j => m 101 (40 * r + i + j)) d n V P p k))), some (.int (nI k))] [] mm
              have g102 : mm 102 = m 102 := by rw [hI, jup_n _ _ (by decide)]; exact jup_n _ _ (by decide)
              have g101 : mm 101 = m 101 := by rw [hI, jup_n _ _ (by decide)]; exact jup_n _ _ (by decide)
              refine e_iload dX4_toShut_94 rfl ?_
              refine e_bipush (v := 8) dX4_toShut_96 rfl ?_
              refine e_icmp_ge 191 dX4_toShut_98 (by decide) (fun h => absurd h (j_more (N := 8) rfl rfl (by omega) (by omega))) (fun c98 => ?_)
              refine e_iload dX4_toShut_101 rfl ?_
              refine e_iload dX4_toShut_103 rfl ?_
              refine e_iconst (v := -1) dX4_toShut_105 rfl ?_
              refine e_ixor dX4_toShut_106 ?_
              refine e_iand dX4_toShut_107 ?_
              refine e_if_ne 185 dX4_toShut_108 (by decide) (fun c108 => ?_) (fun c108 => ?_)
              · refine e_iinc (v := nI (k + 1)) (L' := [some (.ref 98), some (.int (nI p)), some (.int (nI d)), some (.int (nI r)), some (.int (nI i)), some (.int (nI n)), some (.int w), some (.int 0), some (.int (m 102 (31 + p))), some (.int (bI (shB (m 102) (fun j => m 101 (40 * r + i + j)) d n V P p k))), some (.int (nI (k + 1)))]) dX4_toShut_185 rfl (j_inc rfl) (by decide) (jnl_at (i := 9) rfl) rfl ?_
                refine e_goto 94 dX4_toShut_188 (by decide) ?_
                have eB : shB (m 102) (fun j => m 101 (40 * r + i + j)) d n V P p (k + 1) = shB (m 102) (fun j => m 101 (40 * r + i + j)) d n V P p k := shB_n0 c108
                rw [← eB]
                exact ih f mm hI
              · rcases j_opt (shB (m 102) (fun j => m 101 (40 * r + i + j)) d n V P p k) with hsb | ⟨b, hsb⟩
                · rw [hsb, show bI none = -1 from rfl]
                  refine e_iload dX4_toShut_111 rfl ?_
                  refine e_if_lt 129 dX4_toShut_113 (by decide) (fun c113 => ?_) (fun h => absurd h (by decide))
                  refine e_aload_n dX4_toShut_129 rfl ?_
                  refine e_getR (o := 4) (b := 102) dX4_toShut_130 lkX4_19 rfl rfl (by decide) rfl ?_
                  refine e_bipush (v := 31) dX4_toShut_133 rfl ?_
                  refine e_iload_n dX4_toShut_135 rfl ?_
                  refine e_iadd dX4_toShut_136 ?_
                  refine e_iload dX4_toShut_137 rfl ?_
                  refine e_iload dX4_toShut_139 rfl ?_
                  refine e_iconst (v := -1) dX4_toShut_141 rfl ?_
                  refine e_ixor dX4_toShut_142 ?_
                  refine e_iand dX4_toShut_143 ?_
                  refine e_iast dX4_toShut_144 rfl (31 + p) (j_add rfl rfl) (by omega) (by decide) (fun ma hma => ?_)
                  have g2 : ma 102 = (upd (m 102) (31 + p) (m 102 (31 + p) &&& (nI k ^^^ (-1)))) := by rw [hma, jup_s, g102]
                  have g1 : ma 101 = m 101 := by rw [hma, jup_n _ _ (by decide), g101]
                  refine e_aload_n dX4_toShut_145 rfl ?_
                  refine e_iload_n dX4_toShut_146 rfl ?_
                  refine e_bipush (v := 40) dX4_toShut_147 rfl ?_
                  refine e_iload_n dX4_toShut_149 rfl ?_
                  refine e_imul dX4_toShut_150 ?_
                  refine e_iload dX4_toShut_151 rfl ?_
                  refine e_iadd dX4_toShut_153 ?_
                  rw [show (40 * (nI r)) + (nI i) = nI ((40 * r) + i) from (j_add (j_mul rfl rfl) rfl)]
                  refine e_iload dX4_toShut_154 rfl ?_
                  refine e_callVv (n := 3) mX4_singRound [.int (nI d), .int (nI ((40 * r) + i)), .int (nI n)] dX4_toShut_156 ckX4_198 rfl (by decide +kernel) rfl rfl rfl rfl (Nat.le_of_ble_eq_true rfl) ⟨Nat.zero_le _, Nat.zero_le _⟩ (s_singRound ma V hV (by rw [g2, upd_n _ _ (by omega)]; exact h1) P hP (by rw [g2, upd_n _ _ (by omega)]; exact h2) d (40 * r + i) n hd hn (by omega)) (fun ms hms => ?_)
                  obtain ⟨f2, hms⟩ := hms
                  refine e_aload_n dX4_toShut_159 rfl ?_
                  refine e_getR (o := 4) (b := 102) dX4_toShut_160 lkX4_19 rfl rfl (by decide) rfl ?_
                  refine e_bipush (v := 41) dX4_toShut_163 rfl ?_
                  refine e_iload_n dX4_toShut_165 rfl ?_
                  refine e_iadd dX4_toShut_166 ?_
                  refine e_iald dX4_toShut_167 rfl (41 + p) (j_add rfl rfl) (by omega) (by decide) ?_
                  rw [show ms 102 (41 + p) = roundB (upd (m 102) (31 + p) (m 102 (31 + p) &&& (nI k ^^^ (-1)))) (fun j => m 101 (40 * r + i + j)) d n V P (rlen d n V) (41 + p) from by rw [hms, jup_s, g2, g1]]
                  refine e_iconst (v := 1) dX4_toShut_168 rfl ?_
                  refine e_icmp_ne 177 dX4_toShut_169 (by decide) (fun c169 => ?_) (fun c169 => ?_)
                  · refine e_iload dX4_toShut_177 rfl ?_
                    refine e_istore (L' := [some (.ref 98), some (.int (nI p)), some (.int (nI d)), some (.int (nI r)), some (.int (nI i)), some (.int (nI n)), some (.int w), some (.int 0), some (.int (m 102 (31 + p))), some (.int (-1)), some (.int (nI k))]) dX4_toShut_179 (Nat.le_of_ble_eq_true rfl) (Nat.le_of_ble_eq_true rfl) (jnl_at (i := 8) rfl) rfl ?_
                    refine e_aload_n dX4_toShut_181 rfl ?_
                    refine e_callVv (n := 0) mX4_takeBack [] dX4_toShut_182 ckX4_193 rfl (by decide +kernel) rfl rfl rfl rfl (Nat.le_of_ble_eq_true rfl) ⟨Nat.zero_le _, Nat.zero_le _⟩ (s_takeBack ms) (fun mt hmt => ?_)
                    refine e_iinc (v := nI (k + 1)) (L' := [some (.ref 98), some (.int (nI p)), some (.int (nI d)), some (.int (nI r)), some (.int (nI i)), some (.int (nI n)), some (.int w), some (.int 0), some (.int (m 102 (31 + p))), some (.int (-1)), some (.int (nI (k + 1)))]) dX4_toShut_185 rfl (j_inc rfl) (by decide) (jnl_at (i := 9) rfl) rfl ?_
                    refine e_goto 94 dX4_toShut_188 (by decide) ?_
                    have eB : shB (m 102) (fun j => m 101 (40 * r + i + j)) d n V P p (k + 1) = shB (m 102) (fun j => m 101 (40 * r + i + j)) d n V P p k := shB_no (fun q => c169 (of_decide_eq_true q))
                    refine e_start (by simp only [eB, hsb]; rfl) rfl (ih f2 mt ?_)
                    rw [← hmt, hms, g2, g1, hma, hI, jup_swp]
                    refine bak_ex m f2 _ (fun j hj => ?_)
                    rw [roundB_hi hV hP hj]
                    exact upd_n _ _ (by omega)
                  · refine e_iload dX4_toShut_172 rfl ?_
                    refine e_goto 179 dX4_toShut_174 (by decide) ?_
                    refine e_istore (L' := [some (.ref 98), some (.int (nI p)), some (.int (nI d)), some (.int (nI r)), some (.int (nI i)), some (.int (nI n)), some (.int w), some (.int 0), some (.int (m 102 (31 + p))), some (.int (nI k)), some (.int (nI k))]) dX4_toShut_179 (Nat.le_of_ble_eq_true rfl) (Nat.le_of_ble_eq_true rfl) (jnl_at (i := 8) rfl) rfl ?_
                    refine e_aload_n dX4_toShut_181 rfl ?_
                    refine e_callVv (n := 0) mX4_takeBack [] dX4_toShut_182 ckX4_193 rfl (by decide +kernel) rfl rfl rfl rfl (Nat.le_of_ble_eq_true rfl) ⟨Nat.zero_le _, Nat.zero_le _⟩ (s_takeBack ms) (fun mt hmt => ?_)
                    refine e_iinc (v := nI (k + 1)) (L' := [some (.ref 98), some (.int (nI p)), some (.int (nI d)), some (.int (nI r)), some (.int (nI i)), some (.int (nI n)), some (.int w), some (.int 0), some (.int (m 102 (31 + p))), some (.int (nI k)), some (.int (nI (k + 1)))]) dX4_toShut_185 rfl (j_inc rfl) (by decide) (jnl_at (i := 9) rfl) rfl ?_
                    refine e_goto 94 dX4_toShut_188 (by decide) ?_
                    have eB : shB (m 102) (fun j => m 101 (40 * r + i + j)) d n V P p (k + 1) = some k := by first | exact shB_y0 c108 hsb (decide_eq_true c169) | exact shB_y1 c108 hsb ((j_lt (by have := popc_le k; omega) (by have := popc_le b; omega)).mp (Int32.not_le.mp c126)) (decide_eq_true c169)
                    refine e_start (by simp only [eB]; rfl) rfl (ih f2 mt ?_)
                    rw [← hmt, hms, g2, g1, hma, hI, jup_swp]
                    refine bak_ex m f2 _ (fun j hj => ?_)
                    rw [roundB_hi hV hP hj]
                    exact upd_n _ _ (by omega)
                · have hbk := shB_lt k b hsb
                  rw [hsb, show bI (some b) = nI b from rfl]
                  refine e_iload dX4_toShut_111 rfl ?_
                  refine e_if_lt 129 dX4_toShut_113 (by decide) (fun h => absurd h (nI_pos (by omega))) (fun c113 => ?_)
                  refine e_iload dX4_toShut_116 rfl ?_
                  refine e_callSi (n := 1) mX4_ones [.int (nI k)] dX4_toShut_118 ckX4_202 rfl (by decide +kernel) rfl rfl (Nat.le_of_ble_eq_true rfl) ⟨Nat.zero_le _, Nat.zero_le _⟩ (s_ones mm (k) (by omega)) (fun v118 m16 hm16 => ?_)
                  obtain ⟨rfl, rfl⟩ := hm16
                  refine e_iload dX4_toShut_121 rfl ?_
                  refine e_callSi (n := 1) mX4_ones [.int (nI b)] dX4_toShut_123 ckX4_202 rfl (by decide +kernel) rfl rfl (Nat.le_of_ble_eq_true rfl) ⟨Nat.zero_le _, Nat.zero_le _⟩ (s_ones mm (b) (by omega)) (fun v123 m17 hm17 => ?_)
                  obtain ⟨rfl, rfl⟩ := hm17
                  refine e_icmp_ge 185 dX4_toShut_126 (by decide) (fun c126 => ?_) (fun c126 => ?_)
                  · refine e_iinc (v := nI (k + 1)) (L' := [some (.ref 98), some (.int (nI p)), some (.int (nI d)), some (.int (nI r)), some (.int (nI i)), some (.int (nI n)), some (.int w), some (.int 0), some (.int (m 102 (31 + p))), some (.int (nI b)), some (.int (nI (k + 1)))]) dX4_toShut_185 rfl (j_inc rfl) (by decide) (jnl_at (i := 9) rfl) rfl ?_
                    refine e_goto 94 dX4_toShut_188 (by decide) ?_
                    have eB : shB (m 102) (fun j => m 101 (40 * r + i + j)) d n V P p (k + 1) = shB (m 102) (fun j => m 101 (40 * r + i + j)) d n V P p k := shB_ge hsb (fun q => absurd ((j_lt (a := popc k) (b := popc b) (by have := popc_le k; omega) (by have := popc_le b; omega)).mpr q) (Int32.not_lt.mpr c126))
                    rw [show nI b = bI (shB (m 102) (fun j => m 101 (40 * r + i + j)) d n V P p (k + 1)) from by rw [eB, hsb]; rfl]
                    exact ih f mm hI
                  · refine e_aload_n dX4_toShut_129 rfl ?_
                    refine e_getR (o := 4) (b := 102) dX4_toShut_130 lkX4_19 rfl rfl (by decide) rfl ?_
                    refine e_bipush (v := 31) dX4_toShut_133 rfl ?_
                    refine e_iload_n dX4_toShut_135 rfl ?_
                    refine e_iadd dX4_toShut_136 ?_
                    refine e_iload dX4_toShut_137 rfl ?_
                    refine e_iload dX4_toShut_139 rfl ?_
                    refine e_iconst (v := -1) dX4_toShut_141 rfl ?_
                    refine e_ixor dX4_toShut_142 ?_
                    refine e_iand dX4_toShut_143 ?_
                    refine e_iast dX4_toShut_144 rfl (31 + p) (j_add rfl rfl) (by omega) (by decide) (fun ma hma => ?_)
                    have g2 : ma 102 = (upd (m 102) (31 + p) (m 102 (31 + p) &&& (nI k ^^^ (-1)))) := by rw [hma, jup_s, g102]
                    have g1 : ma 101 = m 101 := by rw [hma, jup_n _ _ (by decide), g101]
                    refine e_aload_n dX4_toShut_145 rfl ?_
                    refine e_iload_n dX4_toShut_146 rfl ?_
                    refine e_bipush (v := 40) dX4_toShut_147 rfl ?_
                    refine e_iload_n dX4_toShut_149 rfl ?_
                    refine e_imul dX4_toShut_150 ?_
                    refine e_iload dX4_toShut_151 rfl ?_
                    refine e_iadd dX4_toShut_153 ?_
                    rw [show (40 * (nI r)) + (nI i) = nI ((40 * r) + i) from (j_add (j_mul rfl rfl) rfl)]
                    refine e_iload dX4_toShut_154 rfl ?_
                    refine e_callVv (n := 3) mX4_singRound [.int (nI d), .int (nI ((40 * r) + i)), .int (nI n)] dX4_toShut_156 ckX4_198 rfl (by decide +kernel) rfl rfl rfl rfl (Nat.le_of_ble_eq_true rfl) ⟨Nat.zero_le _, Nat.zero_le _⟩ (s_singRound ma V hV (by rw [g2, upd_n _ _ (by omega)]; exact h1) P hP (by rw [g2, upd_n _ _ (by omega)]; exact h2) d (40 * r + i) n hd hn (by omega)) (fun ms hms => ?_)
                    obtain ⟨f2, hms⟩ := hms
                    refine e_aload_n dX4_toShut_159 rfl ?_
                    refine e_getR (o := 4) (b := 102) dX4_toShut_160 lkX4_19 rfl rfl (by decide) rfl ?_
                    refine e_bipush (v := 41) dX4_toShut_163 rfl ?_
                    refine e_iload_n dX4_toShut_165 rfl ?_
                    refine e_iadd dX4_toShut_166 ?_
                    refine e_iald dX4_toShut_167 rfl (41 + p) (j_add rfl rfl) (by omega) (by decide) ?_
                    rw [show ms 102 (41 + p) = roundB (upd (m 102) (31 + p) (m 102 (31 + p) &&& (nI k ^^^ (-1)))) (fun j => m 101 (40 * r + i + j)) d n V P (rlen d n V) (41 + p) from by rw [hms, jup_s, g2, g1]]
                    refine e_iconst (v := 1) dX4_toShut_168 rfl ?_
                    refine e_icmp_ne 177 dX4_toShut_169 (by decide) (fun c169 => ?_) (fun c169 => ?_)
                    · refine e_iload dX4_toShut_177 rfl ?_
                      refine e_istore (L' := [some (.ref 98), some (.int (nI p)), some (.int (nI d)), some (.int (nI r)), some (.int (nI i)), some (.int (nI n)), some (.int w), some (.int 0), some (.int (m 102 (31 + p))), some (.int (nI b)), some (.int (nI k))]) dX4_toShut_179 (Nat.le_of_ble_eq_true rfl) (Nat.le_of_ble_eq_true rfl) (jnl_at (i := 8) rfl) rfl ?_
                      refine e_aload_n dX4_toShut_181 rfl ?_
                      refine e_callVv (n := 0) mX4_takeBack [] dX4_toShut_182 ckX4_193 rfl (by decide +kernel) rfl rfl rfl rfl (Nat.le_of_ble_eq_true rfl) ⟨Nat.zero_le _, Nat.zero_le _⟩ (s_takeBack ms) (fun mt hmt => ?_)
                      refine e_iinc (v := nI (k + 1)) (L' := [some (.ref 98), some (.int (nI p)), some (.int (nI d)), some (.int (nI r)), some (.int (nI i)), some (.int (nI n)), some (.int w), some (.int 0), some (.int (m 102 (31 + p))), some (.int (nI b)), some (.int (nI (k + 1)))]) dX4_toShut_185 rfl (j_inc rfl) (by decide) (jnl_at (i := 9) rfl) rfl ?_
                      refine e_goto 94 dX4_toShut_188 (by decide) ?_
                      have eB : shB (m 102) (fun j => m 101 (40 * r + i + j)) d n V P p (k + 1) = shB (m 102) (fun j => m 101 (40 * r + i + j)) d n V P p k := shB_no (fun q => c169 (of_decide_eq_true q))
                      refine e_start (by simp only [eB, hsb]; rfl) rfl (ih f2 mt ?_)
                      rw [← hmt, hms, g2, g1, hma, hI, jup_swp]
                      refine bak_ex m f2 _ (fun j hj => ?_)
                      rw [roundB_hi hV hP hj]
                      exact upd_n _ _ (by omega)
                    · refine e_iload dX4_toShut_172 rfl ?_
                      refine e_goto 179 dX4_toShut_174 (by decide) ?_
                      refine e_istore (L' := [some (.ref 98), some (.int (nI p)), some (.int (nI d)), some (.int (nI r)), some (.int (nI i)), some (.int (nI n)), some (.int w), some (.int 0), some (.int (m 102 (31 + p))), some (.int (nI k)), some (.int (nI k))]) dX4_toShut_179 (Nat.le_of_ble_eq_true rfl) (Nat.le_of_ble_eq_true rfl) (jnl_at (i := 8) rfl) rfl ?_
                      refine e_aload_n dX4_toShut_181 rfl ?_
                      refine e_callVv (n := 0) mX4_takeBack [] dX4_toShut_182 ckX4_193 rfl (by decide +kernel) rfl rfl rfl rfl (Nat.le_of_ble_eq_true rfl) ⟨Nat.zero_le _, Nat.zero_le _⟩ (s_takeBack ms) (fun mt hmt => ?_)
                      refine e_iinc (v := nI (k + 1)) (L' := [some (.ref 98), some (.int (nI p)), some (.int (nI d)), some (.int (nI r)), some (.int (nI i)), some (.int (nI n)), some (.int w), some (.int 0), some (.int (m 102 (31 + p))), some (.int (nI k)), some (.int (nI (k + 1)))]) dX4_toShut_185 rfl (j_inc rfl) (by decide) (jnl_at (i := 9) rfl) rfl ?_
                      refine e_goto 94 dX4_toShut_188 (by decide) ?_
                      have eB : shB (m 102) (fun j => m 101 (40 * r + i + j)) d n V P p (k + 1) = some k := by first | exact shB_y0 c108 hsb (decide_eq_true c169) | exact shB_y1 c108 hsb ((j_lt (by have := popc_le k; omega) (by have := popc_le b; omega)).mp (Int32.not_le.mp c126)) (decide_eq_true c169)
                      refine e_start (by simp only [eB]; rfl) rfl (ih f2 mt ?_)
                      rw [← hmt, hms, g2, g1, hma, hI, jup_swp]
                      refine bak_ex m f2 _ (fun j hj => ?_)
                      rw [roundB_hi hV hP hj]
                      exact upd_n _ _ (by omega)
          · exact False.elim (q3 hw2)
        · exact False.elim (q2 (inN_nI (by decide) (by omega)))
      · exact False.elim (q1 (inN_nI (by decide) hr))
    · exact False.elim (q6 (inN_nI (by decide) (by omega)))
  · exact False.elim (q5 (inN_nI (by omega) hp))

set_option maxHeartbeats 2000000 in
set_option maxRecDepth 20000 in
theorem s_Dcough_b (m : jM) (V : Nat) (hV : V ≤ 3) (h1 : m 102 1 = nI V) (P : Nat) (hP : P ≤ 5) (h2 : m 102 2 = nI P) (x y z i n c w : Int32) (hb : ¬ (inN x P ∧ inN y V ∧ inN z 8 ∧ inN n 9 ∧ inN c 11 ∧ inN w 2)) : iX mX4_coughs [.ref 98, .int x, .int y, .int z, .int i, .int n, .int c, .int w] m (fun v m1 => v = -1000001 ∧ m = m1) := by
  refine jX_of (L := [some (.ref 98), some (.int x), some (.int y), some (.int z), some (.int i), some (.int n), some (.int c), some (.int w), none, none, none, none, none, none]) 6 rfl rfl (by decide +kernel) rfl ?_
  refine e_aload_n dX4_coughs_0 rfl ?_
  refine e_iload_n dX4_coughs_1 rfl ?_
  refine e_callVi (n := 1) mX4_isPan [.int x] dX4_coughs_2 ckX4_171 rfl (by decide +kernel) rfl rfl rfl rfl (Nat.le_of_ble_eq_true rfl) ⟨Nat.zero_le _, Nat.zero_le _⟩ (s_panN x m P hP h2) (fun v2 m1 hm1 => ?_)
  rcases hm1 with ⟨rfl, ⟨rfl, q⟩ | ⟨rfl, q⟩⟩
  · refine e_if_eq 60 dX4_coughs_5 (by decide) (fun h => absurd h (by decide)) (fun c5 => ?_)
    refine e_aload_n dX4_coughs_8 rfl ?_
    refine e_iload_n dX4_coughs_9 rfl ?_
    refine e_callVi (n := 1) mX4_isSinger [.int y] dX4_coughs_10 ckX4_174 rfl (by decide +kernel) rfl rfl rfl rfl (Nat.le_of_ble_eq_true rfl) ⟨Nat.zero_le _, Nat.zero_le _⟩ (s_sngN y m V hV h1) (fun v10 m2 hm2 => ?_)
    rcases hm2 with ⟨rfl, ⟨rfl, q1⟩ | ⟨rfl, q1⟩⟩
    · refine e_if_eq 60 dX4_coughs_13 (by decide) (fun h => absurd h (by decide)) (fun c13 => ?_)
      refine e_iload_n dX4_coughs_16 rfl ?_
      refine e_callSi (n := 1) mX4_isRow [.int z] dX4_coughs_17 ckX4_64 rfl (by decide +kernel) rfl rfl (Nat.le_of_ble_eq_true rfl) ⟨Nat.zero_le _, Nat.zero_le _⟩ (s_rowN z m) (fun v17 m3 hm3 => ?_)
      rcases hm3 with ⟨rfl, ⟨rfl, q2⟩ | ⟨rfl, q2⟩⟩
      · refine e_if_eq 60 dX4_coughs_20 (by decide) (fun h => absurd h (by decide)) (fun c20 => ?_)
        refine e_iload dX4_coughs_23 rfl ?_
        refine e_i2l dX4_coughs_25 ?_
        refine e_lconst (v := 0) dX4_coughs_26 rfl ?_
        refine e_ldc2 dX4_coughs_27 kkX4_196 ?_
        refine e_callSi (n := 3) mX4_in [.long (Int32.toInt64 n), .long 0, .long (8)] dX4_coughs_30 ckX4_60 rfl (by decide +kernel) rfl rfl (Nat.le_of_ble_eq_true rfl) ⟨Nat.zero_le _, Nat.zero_le _⟩ (s_inN n (8) 9 (by decide) (by decide) m) (fun v30 m4 hm4 => ?_)
        rcases hm4 with ⟨rfl, ⟨rfl, q3⟩ | ⟨rfl, q3⟩⟩
        · refine e_if_eq 60 dX4_coughs_33 (by decide) (fun h => absurd h (by decide)) (fun c33 => ?_)
          refine e_iload dX4_coughs_36 rfl ?_
          refine e_i2l dX4_coughs_38 ?_
          refine e_lconst (v := 0) dX4_coughs_39 rfl ?_
          refine e_ldc2 dX4_coughs_40 kkX4_217 ?_
          refine e_callSi (n := 3) mX4_in [.long (Int32.toInt64 c), .long 0, .long (10)] dX4_coughs_43 ckX4_60 rfl (by decide +kernel) rfl rfl (Nat.le_of_ble_eq_true rfl) ⟨Nat.zero_le _, Nat.zero_le _⟩ (s_inN c (10) 11 (by decide) (by decide) m) (fun v43 m5 hm5 => ?_)
          rcases hm5 with ⟨rfl, ⟨rfl, q4⟩ | ⟨rfl, q4⟩⟩
          · refine e_if_eq 60 dX4_coughs_46 (by decide) (fun h => absurd h (by decide)) (fun c46 => ?_)
            refine e_iload dX4_coughs_49 rfl ?_
            refine e_i2l dX4_coughs_51 ?_
            refine e_lconst (v := 0) dX4_coughs_52 rfl ?_
            refine e_lconst (v := 1) dX4_coughs_53 rfl ?_
            refine e_callSi (n := 3) mX4_in [.long (Int32.toInt64 w), .long 0, .long 1] dX4_coughs_54 ckX4_60 rfl (by decide +kernel) rfl rfl (Nat.le_of_ble_eq_true rfl) ⟨Nat.zero_le _, Nat.zero_le _⟩ (s_inN w 1 2 (by decide) (by decide) m) (fun v54 m6 hm6 => ?_)
            rcases hm6 with ⟨rfl, ⟨rfl, q5⟩ | ⟨rfl, q5⟩⟩
            · exact False.elim (hb ⟨q, q1, q2, q3, q4, q5⟩)
            · refine e_if_ne 63 dX4_coughs_57 (by decide) (fun h => absurd h (by decide)) (fun c57 => ?_)
              refine e_ldc dX4_coughs_60 kkX4_70 ?_
              exact e_iret dX4_coughs_62 rfl (⟨rfl, rfl⟩)
          · refine e_if_eq 60 dX4_coughs_46 (by decide) (fun c46 => ?_) (fun h => absurd h (by decide))
            refine e_ldc dX4_coughs_60 kkX4_70 ?_
            exact e_iret dX4_coughs_62 rfl (⟨rfl, rfl⟩)
        · refine e_if_eq 60 dX4_coughs_33 (by decide) (fun c33 => ?_) (fun h => absurd h (by decide))
          refine e_ldc dX4_coughs_60 kkX4_70 ?_
          exact e_iret dX4_coughs_62 rfl (⟨rfl, rfl⟩)
      · refine e_if_eq 60 dX4_coughs_20 (by decide) (fun c20 => ?_) (fun h => absurd h (by decide))
        refine e_ldc dX4_coughs_60 kkX4_70 ?_
        exact e_iret dX4_coughs_62 rfl (⟨rfl, rfl⟩)
    · refine e_if_eq 60 dX4_coughs_13 (by decide) (fun c13 => ?_) (fun h => absurd h (by decide))
      refine e_ldc dX4_coughs_60 kkX4_70 ?_
      exact e_iret dX4_coughs_62 rfl (⟨rfl, rfl⟩)
  · refine e_if_eq 60 dX4_coughs_5 (by decide) (fun c5 => ?_) (fun h => absurd h (by decide))
    refine e_ldc dX4_coughs_60 kkX4_70 ?_
    exact e_iret dX4_coughs_62 rfl (⟨rfl, rfl⟩)

set_option maxHeartbeats 2000000 in
set_option maxRecDepth 20000 in
theorem s_Dcough_f (m : jM) (V : Nat) (hV : V ≤ 3) (h1 : m 102 1 = nI V) (P : Nat) (hP : P ≤ 5) (h2 : m 102 2 = nI P) (p : Nat) (hp : p < P) (s : Nat) (hs : s < V) (r : Nat) (hr : r < 8) (n : Nat) (hn : n ≤ 8) (c : Nat) (hc : c ≤ 10) (w : Int32) (hw2 : inN w 2) (i : Int32) (hsz : szOK m r) (htn : ¬ tuneOK m r i n) : iX mX4_coughs [.ref 98, .int (nI p), .int (nI s), .int (nI r), .int i, .int (nI n), .int (nI c), .int w] m (fun v m1 => v = lackV m r i n ∧ lackM m r i n = m1) := by
  refine jX_of (L := [some (.ref 98), some (.int (nI p)), some (.int (nI s)), some (.int (nI r)), some (.int i), some (.int (nI n)), some (.int (nI c)), some (.int w), none, none, none, none, none, none]) 6 rfl rfl (by decide +kernel) rfl ?_
  refine e_aload_n dX4_coughs_0 rfl ?_
  refine e_iload_n dX4_coughs_1 rfl ?_
  refine e_callVi (n := 1) mX4_isPan [.int (nI p)] dX4_coughs_2 ckX4_171 rfl (by decide +kernel) rfl rfl rfl rfl (Nat.le_of_ble_eq_true rfl) ⟨Nat.zero_le _, Nat.zero_le _⟩ (s_panN (nI p) m P hP h2) (fun v2 m1 hm1 => ?_)
  rcases hm1 with ⟨rfl, ⟨rfl, q5⟩ | ⟨rfl, q5⟩⟩
  · refine e_if_eq 60 dX4_coughs_5 (by decide) (fun h => absurd h (by decide)) (fun c5 => ?_)
    refine e_aload_n dX4_coughs_8 rfl ?_
    refine e_iload_n dX4_coughs_9 rfl ?_
    refine e_callVi (n := 1) mX4_isSinger [.int (nI s)] dX4_coughs_10 ckX4_174 rfl (by decide +kernel) rfl rfl rfl rfl (Nat.le_of_ble_eq_true rfl) ⟨Nat.zero_le _, Nat.zero_le _⟩ (s_sngN (nI s) m V hV h1) (fun v10 m2 hm2 => ?_)
    rcases hm2 with ⟨rfl, ⟨rfl, q6⟩ | ⟨rfl, q6⟩⟩
    · refine e_if_eq 60 dX4_coughs_13 (by decide) (fun h => absurd h (by decide)) (fun c13 => ?_)
      refine e_iload_n dX4_coughs_16 rfl ?_
      refine e_callSi (n := 1) mX4_isRow [.int (nI r)] dX4_coughs_17 ckX4_64 rfl (by decide +kernel) rfl rfl (Nat.le_of_ble_eq_true rfl) ⟨Nat.zero_le _, Nat.zero_le _⟩ (s_rowN (nI r) m) (fun v17 m3 hm3 => ?_)
      rcases hm3 with ⟨rfl, ⟨rfl, q1⟩ | ⟨rfl, q1⟩⟩
      · refine e_if_eq 60 dX4_coughs_20 (by decide) (fun h => absurd h (by decide)) (fun c20 => ?_)
        refine e_iload dX4_coughs_23 rfl ?_
        refine e_i2l dX4_coughs_25 ?_
        refine e_lconst (v := 0) dX4_coughs_26 rfl ?_
        refine e_ldc2 dX4_coughs_27 kkX4_196 ?_
        refine e_callSi (n := 3) mX4_in [.long (Int32.toInt64 (nI n)), .long 0, .long (8)] dX4_coughs_30 ckX4_60 rfl (by decide +kernel) rfl rfl (Nat.le_of_ble_eq_true rfl) ⟨Nat.zero_le _, Nat.zero_le _⟩ (s_inN (nI n) (8) 9 (by decide) (by decide) m) (fun v30 m4 hm4 => ?_)
        rcases hm4 with ⟨rfl, ⟨rfl, q2⟩ | ⟨rfl, q2⟩⟩
        · refine e_if_eq 60 dX4_coughs_33 (by decide) (fun h => absurd h (by decide)) (fun c33 => ?_)
          refine e_iload dX4_coughs_36 rfl ?_
          refine e_i2l dX4_coughs_38 ?_
          refine e_lconst (v := 0) dX4_coughs_39 rfl ?_
          refine e_ldc2 dX4_coughs_40 kkX4_217 ?_
          refine e_callSi (n := 3) mX4_in [.long (Int32.toInt64 (nI c)), .long 0, .long (10)] dX4_coughs_43 ckX4_60 rfl (by decide +kernel) rfl rfl (Nat.le_of_ble_eq_true rfl) ⟨Nat.zero_le _, Nat.zero_le _⟩ (s_inN (nI c) (10) 11 (by decide) (by decide) m) (fun v43 m5 hm5 => ?_)
          rcases hm5 with ⟨rfl, ⟨rfl, q7⟩ | ⟨rfl, q7⟩⟩
          · refine e_if_eq 60 dX4_coughs_46 (by decide) (fun h => absurd h (by decide)) (fun c46 => ?_)
            refine e_iload dX4_coughs_49 rfl ?_
            refine e_i2l dX4_coughs_51 ?_
            refine e_lconst (v := 0) dX4_coughs_52 rfl ?_
            refine e_lconst (v := 1) dX4_coughs_53 rfl ?_
            refine e_callSi (n := 3) mX4_in [.long (Int32.toInt64 w), .long 0, .long 1] dX4_coughs_54 ckX4_60 rfl (by decide +kernel) rfl rfl (Nat.le_of_ble_eq_true rfl) ⟨Nat.zero_le _, Nat.zero_le _⟩ (s_inN w 1 2 (by decide) (by decide) m) (fun v54 m6 hm6 => ?_)
            rcases hm6 with ⟨rfl, ⟨rfl, q3⟩ | ⟨rfl, q3⟩⟩
            · refine e_if_ne 63 dX4_coughs_57 (by decide) (fun c57 => ?_) (fun h => absurd h (by decide))
              refine e_aload_n dX4_coughs_63 rfl ?_
              refine e_iload_n dX4_coughs_64 rfl ?_
              refine e_iload dX4_coughs_65 rfl ?_
              refine e_iload dX4_coughs_67 rfl ?_
              refine e_callVi (n := 3) mX4_lacks [.int (nI r), .int i, .int (nI n)] dX4_coughs_69 ckX4_182 rfl (by decide +kernel) rfl rfl rfl rfl (Nat.le_of_ble_eq_true rfl) ⟨Nat.zero_le _, Nat.zero_le _⟩ (s_lacksF m r hr n (by omega) i hsz htn) (fun v69 ml hml => ?_)
              obtain ⟨rfl, hlk⟩ := hml
              refine e_istore (L' := [some (.ref 98), some (.int (nI p)), some (.int (nI s)), some (.int (nI r)), some (.int i), some (.int (nI n)), some (.int (nI c)), some (.int w), some (.int (lackV m r i n)), none, none, none, none, none]) dX4_coughs_72 (Nat.le_of_ble_eq_true rfl) (Nat.le_of_ble_eq_true rfl) (jnl_at (i := 7) rfl) rfl ?_
              refine e_iload dX4_coughs_74 rfl ?_
              refine e_if_ge 82 dX4_coughs_76 (by decide) (fun h => absurd (lackV_neg m r i n) (Int32.not_lt.mpr h)) (fun c76 => ?_)
              refine e_iload dX4_coughs_79 rfl ?_
              exact e_iret dX4_coughs_81 rfl (⟨rfl, hlk⟩)
            · exact False.elim (q3 hw2)
          · exact False.elim (q7 (inN_nI (by decide) (by omega)))
        · exact False.elim (q2 (inN_nI (by decide) (by omega)))
      · exact False.elim (q1 (inN_nI (by decide) hr))
    · exact False.elim (q6 (inN_nI (by omega) hs))
  · exact False.elim (q5 (inN_nI (by omega) hp))

set_option maxHeartbeats 2000000 in
set_option maxRecDepth 20000 in
theorem s_Dcough (m : jM) (V : Nat) (hV : V ≤ 3) (h1 : m 102 1 = nI V) (P : Nat) (hP : P ≤ 5) (h2 : m 102 2 = nI P) (p : Nat) (hp : p < P) (s : Nat) (hs : s < V) (r : Nat) (hr : r < 8) (n : Nat) (hn : n ≤ 8) (c : Nat) (hc : c ≤ 10) (w : Int32) (hw2 : inN w 2) (i k : Nat) (hk : k ≤ 40) (hsz : m 100 r = nI k) (hik : i + n ≤ k) (hgd : goodB (m 101) (40 * r + i) n = true) : iX mX4_coughs [.ref 98, .int (nI p), .int (nI s), .int (nI r), .int (nI i), .int (nI n), .int (nI c), .int w] m (fun v m1 => v = (if w = 0 then nI ((smN (cgF (m 102) (fun j => m 101 (40 * r + i + j)) s n V P p c) (2 ^ n)) / (Nat.gcd (smN (cgF (m 102) (fun j => m 101 (40 * r + i + j)) s n V P p c) (2 ^ n)) (10 ^ n))) else nI (10 ^ n / (Nat.gcd (smN (cgF (m 102) (fun j => m 101 (40 * r + i + j)) s n V P p c) (2 ^ n)) (10 ^ n)))) ∧ ∃ f, jst (jup (asdM m) 106 f) 98 3 0 = m1) := by
  refine jX_of (L := [some (.ref 98), some (.int (nI p)), some (.int (nI s)), some (.int (nI r)), some (.int (nI i)), some (.int (nI n)), some (.int (nI c)), some (.int w), none, none, none, none, none, none]) 6 rfl rfl (by decide +kernel) rfl ?_
  refine e_aload_n dX4_coughs_0 rfl ?_
  refine e_iload_n dX4_coughs_1 rfl ?_
  refine e_callVi (n := 1) mX4_isPan [.int (nI p)] dX4_coughs_2 ckX4_171 rfl (by decide +kernel) rfl rfl rfl rfl (Nat.le_of_ble_eq_true rfl) ⟨Nat.zero_le _, Nat.zero_le _⟩ (s_panN (nI p) m P hP h2) (fun v2 m1 hm1 => ?_)
  rcases hm1 with ⟨rfl, ⟨rfl, q5⟩ | ⟨rfl, q5⟩⟩
  · refine e_if_eq 60 dX4_coughs_5 (by decide) (fun h => absurd h (by decide)) (fun c5 => ?_)
    refine e_aload_n dX4_coughs_8 rfl ?_
    refine e_iload_n dX4_coughs_9 rfl ?_
    refine e_callVi (n := 1) mX4_isSinger [.int (nI s)] dX4_coughs_10 ckX4_174 rfl (by decide +kernel) rfl rfl rfl rfl (Nat.le_of_ble_eq_true rfl) ⟨Nat.zero_le _, Nat.zero_le _⟩ (s_sngN (nI s) m V hV h1) (fun v10 m2 hm2 => ?_)
    rcases hm2 with ⟨rfl, ⟨rfl, q6⟩ | ⟨rfl, q6⟩⟩
    · refine e_if_eq 60 dX4_coughs_13 (by decide) (fun h => absurd h (by decide)) (fun c13 => ?_)
      refine e_iload_n dX4_coughs_16 rfl ?_
      refine e_callSi (n := 1) mX4_isRow [.int (nI r)] dX4_coughs_17 ckX4_64 rfl (by decide +kernel) rfl rfl (Nat.le_of_ble_eq_true rfl) ⟨Nat.zero_le _, Nat.zero_le _⟩ (s_rowN (nI r) m) (fun v17 m3 hm3 => ?_)
      rcases hm3 with ⟨rfl, ⟨rfl, q1⟩ | ⟨rfl, q1⟩⟩
      · refine e_if_eq 60 dX4_coughs_20 (by decide) (fun h => absurd h (by decide)) (fun c20 => ?_)
        refine e_iload dX4_coughs_23 rfl ?_
        refine e_i2l dX4_coughs_25 ?_
        refine e_lconst (v := 0) dX4_coughs_26 rfl ?_
        refine e_ldc2 dX4_coughs_27 kkX4_196 ?_
        refine e_callSi (n := 3) mX4_in [.long (Int32.toInt64 (nI n)), .long 0, .long (8)] dX4_coughs_30 ckX4_60 rfl (by decide +kernel) rfl rfl (Nat.le_of_ble_eq_true rfl) ⟨Nat.zero_le _, Nat.zero_le _⟩ (s_inN (nI n) (8) 9 (by decide) (by decide) m) (fun v30 m4 hm4 => ?_)
        rcases hm4 with ⟨rfl, ⟨rfl, q2⟩ | ⟨rfl, q2⟩⟩
        · refine e_if_eq 60 dX4_coughs_33 (by decide) (fun h => absurd h (by decide)) (fun c33 => ?_)
          refine e_iload dX4_coughs_36 rfl ?_
          refine e_i2l dX4_coughs_38 ?_
          refine e_lconst (v := 0) dX4_coughs_39 rfl ?_
          refine e_ldc2 dX4_coughs_40 kkX4_217 ?_
          refine e_callSi (n := 3) mX4_in [.long (Int32.toInt64 (nI c)), .long 0, .long (10)] dX4_coughs_43 ckX4_60 rfl (by decide +kernel) rfl rfl (Nat.le_of_ble_eq_true rfl) ⟨Nat.zero_le _, Nat.zero_le _⟩ (s_inN (nI c) (10) 11 (by decide) (by decide) m) (fun v43 m5 hm5 => ?_)
          rcases hm5 with ⟨rfl, ⟨rfl, q7⟩ | ⟨rfl, q7⟩⟩
          · refine e_if_eq 60 dX4_coughs_46 (by decide) (fun h => absurd h (by decide)) (fun c46 => ?_)
            refine e_iload dX4_coughs_49 rfl ?_
            refine e_i2l dX4_coughs_51 ?_
            refine e_lconst (v := 0) dX4_coughs_52 rfl ?_
            refine e_lconst (v := 1) dX4_coughs_53 rfl ?_
            refine e_callSi (n := 3) mX4_in [.long (Int32.toInt64 w), .long 0, .long 1] dX4_coughs_54 ckX4_60 rfl (by decide +kernel) rfl rfl (Nat.le_of_ble_eq_true rfl) ⟨Nat.zero_le _, Nat.zero_le _⟩ (s_inN w 1 2 (by decide) (by decide) m) (fun v54 m6 hm6 => ?_)
            rcases hm6 with ⟨rfl, ⟨rfl, q3⟩ | ⟨rfl, q3⟩⟩
            · refine e_if_ne 63 dX4_coughs_57 (by decide) (fun c57 => ?_) (fun h => absurd h (by decide))
              refine e_aload_n dX4_coughs_63 rfl ?_
              refine e_iload_n dX4_coughs_64 rfl ?_
              refine e_iload dX4_coughs_65 rfl ?_
              refine e_iload dX4_coughs_67 rfl ?_
              refine e_callVi (n := 3) mX4_lacks [.int (nI r), .int (nI i), .int (nI n)] dX4_coughs_69 ckX4_182 rfl (by decide +kernel) rfl rfl rfl rfl (Nat.le_of_ble_eq_true rfl) ⟨Nat.zero_le _, Nat.zero_le _⟩ (s_lacksT m r hr n (by omega) i k hk hsz hik hgd) (fun v69 m7 hm7 => ?_)
              obtain ⟨rfl, rfl⟩ := hm7
              refine e_istore (L' := [some (.ref 98), some (.int (nI p)), some (.int (nI s)), some (.int (nI r)), some (.int (nI i)), some (.int (nI n)), some (.int (nI c)), some (.int w), some (.int 0), none, none, none, none, none]) dX4_coughs_72 (Nat.le_of_ble_eq_true rfl) (Nat.le_of_ble_eq_true rfl) (jnl_at (i := 7) rfl) rfl ?_
              refine e_iload dX4_coughs_74 rfl ?_
              refine e_if_ge 82 dX4_coughs_76 (by decide) (fun c76 => ?_) (fun h => absurd h (by decide))
              refine e_aload_n dX4_coughs_82 rfl ?_
              refine e_callVv (n := 0) mX4_putAside [] dX4_coughs_83 ckX4_186 rfl (by decide +kernel) rfl rfl rfl rfl (Nat.le_of_ble_eq_true rfl) ⟨Nat.zero_le _, Nat.zero_le _⟩ (s_putAside m) (fun mp hmp => ?_)
              refine e_iconst (v := 0) dX4_coughs_86 rfl ?_
              refine e_istore (L' := [some (.ref 98), some (.int (nI p)), some (.int (nI s)), some (.int (nI r)), some (.int (nI i)), some (.int (nI n)), some (.int (nI c)), some (.int w), some (.int 0), some (.int 0), none, none, none, none]) dX4_coughs_87 (Nat.le_of_ble_eq_true rfl) (Nat.le_of_ble_eq_true rfl) (jnl_at (i := 8) rfl) rfl ?_
              refine e_iconst (v := 1) dX4_coughs_89 rfl ?_
              refine e_istore (L' := [some (.ref 98), some (.int (nI p)), some (.int (nI s)), some (.int (nI r)), some (.int (nI i)), some (.int (nI n)), some (.int (nI c)), some (.int w), some (.int 0), some (.int 0), some (.int 1), none, none, none]) dX4_coughs_90 (Nat.le_of_ble_eq_true rfl) (Nat.le_of_ble_eq_true rfl) (jnl_at (i := 9) rfl) rfl ?_
              refine e_iconst (v := 0) dX4_coughs_92 rfl ?_
              refine e_istore (L' := [some (.ref 98), some (.int (nI p)), some (.int (nI s)), some (.int (nI r)), some (.int (nI i)), some (.int (nI n)), some (.int (nI c)), some (.int w), some (.int 0), some (.int 0), some (.int 1), some (.int 0), none, none]) dX4_coughs_93 (Nat.le_of_ble_eq_true rfl) (Nat.le_of_ble_eq_true rfl) (jnl_at (i := 10) rfl) rfl ?_
              refine e_loop 95 n (fun u => [some (.ref 98), some (.int (nI p)), some (.int (nI s)), some (.int (nI r)), some (.int (nI i)), some (.int (nI n)), some (.int (nI c)), some (.int w), some (.int 0), some (.int 0), some (.int (nI (10 ^ u))), some (.int (nI u)), none, none]) (fun u => mp) 0 (Nat.zero_le _) rfl (rfl) ?_ ?_
              · show jE _ _ 95 [some (.ref 98), some (.int (nI p)), some (.int (nI s)), some (.int (nI r)), some (.int (nI i)), some (.int (nI n)), some (.int (nI c)), some (.int w), some (.int 0), some (.int 0), some (.int (nI (10 ^ n))), some (.int (nI n)), none, none] [] mp
                refine e_iload dX4_coughs_95 rfl ?_
                refine e_iload dX4_coughs_97 rfl ?_
                refine e_icmp_ge 115 dX4_coughs_99 (by decide) (fun c99 => ?_) (fun h => absurd (j_done rfl rfl) h)
                refine e_iconst (v := 0) dX4_coughs_115 rfl ?_
                refine e_istore (L' := [some (.ref 98), some (.int (nI p)), some (.int (nI s)), some (.int (nI r)), some (.int (nI i)), some (.int (nI n)), some (.int (nI c)), some (.int w), some (.int 0), some (.int 0), some (.int (nI (10 ^ n))), some (.int 0), none, none]) dX4_coughs_116 (Nat.le_of_ble_eq_true rfl) (Nat.le_of_ble_eq_true rfl) (jnl_at (i := 10) rfl) rfl ?_
                refine e_loopS (σ := Nat → Int32) 118 (2 ^ n) (fun u f => [some (.ref 98), some (.int (nI p)), some (.int (nI s)), some (.int (nI r)), some (.int (nI i)), some (.int (nI n)), some (.int (nI c)), some (.int w), some (.int 0), some (.int (nI (smN (cgF (m 102) (fun j => m 101 (40 * r + i + j)) s n V P p c) u))), some (.int (nI (10 ^ n))), some (.int (nI u)), none, none]) (fun u f mm => mm = jup (asdM m) 106 f) 0 (mp 106) (Nat.zero_le _) rfl (by rw [← hmp]; exact (jup_id _ _).symm) ?_ ?_
                · intro f mm hI
                  show jE _ _ 118 [some (.ref 98), some (.int (nI p)), some (.int (nI s)), some (.int (nI r)), some (.int (nI i)), some (.int (nI n)), some (.int (nI c)), some (.int w), some (.int 0), some (.int (nI (smN (cgF (m 102) (fun j => m 101 (40 * r + i + j)) s n V P p c) (2 ^ n)))), some (.int (nI (10 ^ n))), some (.int (nI (2 ^ n))), none, none] [] mm
                  have h256 := two_le hn
                  refine e_iload dX4_coughs_118 rfl ?_
                  refine e_iconst (v := 1) dX4_coughs_120 rfl ?_
                  refine e_iload dX4_coughs_121 rfl ?_
                  refine e_ishl dX4_coughs_123 ?_
                  rw [show 1 <<< ((nI n) &&& 31) = nI (2 ^ n) from j_shl1 hn]
                  refine e_icmp_ge 221 dX4_coughs_124 (by decide) (fun c124 => ?_) (fun h => absurd (j_done rfl rfl) h)
                  refine e_iload dX4_coughs_221 rfl ?_
                  refine e_istore (L' := [some (.ref 98), some (.int (nI p)), some (.int (nI s)), some (.int (nI r)), some (.int (nI i)), some (.int (nI n)), some (.int (nI c)), some (.int w), some (.int 0), some (.int (nI (smN (cgF (m 102) (fun j => m 101 (40 * r + i + j)) s n V P p c) (2 ^ n)))), some (.int (nI (10 ^ n))), some (.int (nI (smN (cgF (m 102) (fun j => m 101 (40 * r + i + j)) s n V P p c) (2 ^ n)))), none, none]) dX4_coughs_223 (Nat.le_of_ble_eq_true rfl) (Nat.le_of_ble_eq_true rfl) (jnl_at (i := 10) rfl) rfl ?_
                  refine e_iload dX4_coughs_225 rfl ?_
                  refine e_istore (L' := [some (.ref 98), some (.int (nI p)), some (.int (nI s)), some (.int (nI r)), some (.int (nI i)), some (.int (nI n)), some (.int (nI c)), some (.int w), some (.int 0), some (.int (nI (smN (cgF (m 102) (fun j => m 101 (40 * r + i + j)) s n V P p c) (2 ^ n)))), some (.int (nI (10 ^ n))), some (.int (nI (smN (cgF (m 102) (fun j => m 101 (40 * r + i + j)) s n V P p c) (2 ^ n)))), some (.int (nI (10 ^ n))), none]) dX4_coughs_227 (Nat.le_of_ble_eq_true rfl) (Nat.le_of_ble_eq_true rfl) (jnl_at (i := 11) rfl) rfl ?_
                  refine e_weak [some (.ref 98), none, none, none, none, none, none, some (.int w), none, some (.int (nI (smN (cgF (m 102) (fun j => m 101 (40 * r + i + j)) s n V P p c) (2 ^ n)))), some (.int (nI (10 ^ n))), some (.int (nI (smN (cgF (m 102) (fun j => m 101 (40 * r + i + j)) s n V P p c) (2 ^ n)))), some (.int (nI (10 ^ n))), none] (by simp [jle]) ?_
                  have hA := cg_le (m 102) (fun j => m 101 (40 * r + i + j)) s n V P p c (by omega) (by omega)
                  have hT := ten_le hn
                  have hT1 : 1 ≤ 10 ^ n := Nat.one_le_pow _ _ (by decide)
                  refine e_loopM (σ := Nat × Nat) 229 (fun z => [some (.ref 98), none, none, none, none, none, none, some (.int w), none, some (.int (nI (smN (cgF (m 102) (fun j => m 101 (40 * r + i + j)) s n V P p c) (2 ^ n)))), some (.int (nI (10 ^ n))), some (.int (nI z.1)), some (.int (nI z.2)), none]) (fun z mz => mz = mm ∧ z.1 ≤ 10 ^ n ∧ z.2 ≤ 10 ^ n ∧ Nat.gcd z.1 z.2 = Nat.gcd (smN (cgF (m 102) (fun j => m 101 (40 * r + i + j)) s n V P p c) (2 ^ n)) (10 ^ n)) (fun z => z.2) ((smN (cgF (m 102) (fun j => m 101 (40 * r + i + j)) s n V P p c) (2 ^ n)), 10 ^ n) rfl ⟨rfl, hA, Nat.le_refl _, rfl⟩ ?_
                  rintro ⟨a, b⟩ mz ⟨rfl, ha, hb, hg⟩ ih
                  show jE _ _ 229 [some (.ref 98), none, none, none, none, none, none, some (.int w), none, some (.int (nI (smN (cgF (m 102) (fun j => m 101 (40 * r + i + j)) s n V P p c) (2 ^ n)))), some (.int (nI (10 ^ n))), some (.int (nI a)), some (.int (nI b)), none] [] mz
                  dsimp only at ha hb hg
                  refine e_iload dX4_coughs_229 rfl ?_
                  refine e_if_eq 252 dX4_coughs_231 (by decide) (fun c231 => ?_) (fun c231 => ?_)
                  · have hb0 : b = 0 := (j_eq (a := b) (b := 0) (by omega) (by decide)).mp c231
                    subst hb0
                    rw [Nat.gcd_zero_right] at hg
                    have hg1 : 0 < a := by rw [hg]; exact Nat.gcd_pos_of_pos_right _ (by omega)
                    refine e_aload_n dX4_coughs_252 rfl ?_
                    refine e_iload dX4_coughs_253 rfl ?_
                    refine e_if_ne 266 dX4_coughs_255 (by decide) (fun c255 => ?_) (fun c255 => ?_)
                    · refine e_iload dX4_coughs_266 rfl ?_
                      refine e_iload dX4_coughs_268 rfl ?_
                      refine e_idiv dX4_coughs_270 (nI_ne0 hg1 (by omega)) ?_
                      rw [pk_div (by omega) hg1 (by omega), hg]
                      refine e_callVi (n := 1) mX4_well [.int (nI (10 ^ n / (Nat.gcd (smN (cgF (m 102) (fun j => m 101 (40 * r + i + j)) s n V P p c) (2 ^ n)) (10 ^ n))))] dX4_coughs_271 ckX4_75 rfl (by decide +kernel) rfl rfl rfl rfl (Nat.le_of_ble_eq_true rfl) ⟨Nat.zero_le _, Nat.zero_le _⟩ (s_well (nI (10 ^ n / (Nat.gcd (smN (cgF (m 102) (fun j => m 101 (40 * r + i + j)) s n V P p c) (2 ^ n)) (10 ^ n)))) mz) (fun v271 mw hmw => ?_)
                      obtain ⟨rfl, hw⟩ := hmw
                      exact e_iret dX4_coughs_274 rfl (⟨by first | rw [if_pos c255] | rw [if_neg c255], f, by rw [← hw, hI]⟩)
                    · refine e_iload dX4_coughs_258 rfl ?_
                      refine e_iload dX4_coughs_260 rfl ?_
                      refine e_idiv dX4_coughs_262 (nI_ne0 hg1 (by omega)) ?_
                      refine e_goto 271 dX4_coughs_263 (by decide) ?_
                      rw [pk_div (by omega) hg1 (by omega), hg]
                      refine e_callVi (n := 1) mX4_well [.int (nI ((smN (cgF (m 102) (fun j => m 101 (40 * r + i + j)) s n V P p c) (2 ^ n)) / (Nat.gcd (smN (cgF (m 102) (fun j => m 101 (40 * r + i + j)) s n V P p c) (2 ^ n)) (10 ^ n))))] dX4_coughs_271 ckX4_75 rfl (by decide +kernel) rfl rfl rfl rfl (Nat.le_of_ble_eq_true rfl) ⟨Nat.zero_le _, Nat.zero_le _⟩ (s_well (nI ((smN (cgF (m 102) (fun j => m 101 (40 * r + i + j)) s n V P p c) (2 ^ n)) / (Nat.gcd (smN (cgF (m 102) (fun j => m 101 (40 * r + i + j)) s n V P p c) (2 ^ n)) (10 ^ n)))) mz) (fun v271 mw hmw => ?_)
                      obtain ⟨rfl, hw⟩ := hmw
                      exact e_iret dX4_coughs_274 rfl (⟨by first | rw [if_pos c255] | rw [if_neg c255], f, by rw [← hw, hI]⟩)
                  · have hb0 : ¬ b = 0 := fun q => c231 (by rw [q]; rfl)
                    refine e_iload dX4_coughs_234 rfl ?_
                    refine e_iload dX4_coughs_236 rfl ?_
                    refine e_irem dX4_coughs_238 c231 ?_
                    rw [show (nI a) - (nI a) / (nI b) * (nI b) = nI (a % b) from pk_rem (by omega) (by omega) (by omega)]
                    refine e_istore (L' := [some (.ref 98), none, none, none, none, none, none, some (.int w), none, some (.int (nI (smN (cgF (m 102) (fun j => m 101 (40 * r + i + j)) s n V P p c) (2 ^ n)))), some (.int (nI (10 ^ n))), some (.int (nI a)), some (.int (nI b)), some (.int (nI (a % b)))]) dX4_coughs_239 (Nat.le_of_ble_eq_true rfl) (Nat.le_of_ble_eq_true rfl) (jnl_at (i := 12) rfl) rfl ?_
                    refine e_iload dX4_coughs_241 rfl ?_
                    refine e_istore (L' := [some (.ref 98), none, none, none, none, none, none, some (.int w), none, some (.int (nI (smN (cgF (m 102) (fun j => m 101 (40 * r + i + j)) s n V P p c) (2 ^ n)))), some (.int (nI (10 ^ n))), some (.int (nI b)), some (.int (nI b)), some (.int (nI (a % b)))]) dX4_coughs_243 (Nat.le_of_ble_eq_true rfl) (Nat.le_of_ble_eq_true rfl) (jnl_at (i := 10) rfl) rfl ?_
                    refine e_iload dX4_coughs_245 rfl ?_
                    refine e_istore (L' := [some (.ref 98), none, none, none, none, none, none, some (.int w), none, some (.int (nI (smN (cgF (m 102) (fun j => m 101 (40 * r + i + j)) s n V P p c) (2 ^ n)))), some (.int (nI (10 ^ n))), some (.int (nI b)), some (.int (nI (a % b))), some (.int (nI (a % b)))]) dX4_coughs_247 (Nat.le_of_ble_eq_true rfl) (Nat.le_of_ble_eq_true rfl) (jnl_at (i := 11) rfl) rfl ?_
                    refine e_goto 229 dX4_coughs_249 (by decide) ?_
                    refine e_weak [some (.ref 98), none, none, none, none, none, none, some (.int w), none, some (.int (nI (smN (cgF (m 102) (fun j => m 101 (40 * r + i + j)) s n V P p c) (2 ^ n)))), some (.int (nI (10 ^ n))), some (.int (nI b)), some (.int (nI (a % b))), none] (by simp [jle]) ?_
                    refine ih (b, a % b) mz (Nat.mod_lt a (by omega)) ⟨rfl, hb, Nat.le_trans (Nat.le_of_lt (Nat.mod_lt a (by omega))) hb, ?_⟩
                    rw [← hg]
                    show Nat.gcd b (a % b) = Nat.gcd a b
                    rw [Nat.gcd_comm b, ← Nat.gcd_rec, Nat.gcd_comm]
                · intro u hk f mm hI ih
                  show jE _ _ 118 [some (.ref 98), some (.int (nI p)), some (.int (nI s)), some (.int (nI r)), some (.int (nI i)), some (.int (nI n)), some (.int (nI c)), some (.int w), some (.int 0), some (.int (nI (smN (cgF (m 102) (fun j => m 101 (40 * r + i + j)) s n V P p c) u))), some (.int (nI (10 ^ n))), some (.int (nI u)), none, none] [] mm
                  have g102 : mm 102 = m 102 := by rw [hI, jup_n _ _ (by decide)]; exact jup_n _ _ (by decide)
                  have g101 : mm 101 = m 101 := by rw [hI, jup_n _ _ (by decide)]; exact jup_n _ _ (by decide)
                  have h256 := two_le hn
                  refine e_iload dX4_coughs_118 rfl ?_
                  refine e_iconst (v := 1) dX4_coughs_120 rfl ?_
                  refine e_iload dX4_coughs_121 rfl ?_
                  refine e_ishl dX4_coughs_123 ?_
                  rw [show 1 <<< ((nI n) &&& 31) = nI (2 ^ n) from j_shl1 hn]
                  refine e_icmp_ge 221 dX4_coughs_124 (by decide) (fun h => absurd h (j_more (N := 2 ^ n) rfl rfl (by omega) (by omega))) (fun c124 => ?_)
                  refine e_iconst (v := 1) dX4_coughs_127 rfl ?_
                  refine e_istore (L' := [some (.ref 98), some (.int (nI p)), some (.int (nI s)), some (.int (nI r)), some (.int (nI i)), some (.int (nI n)), some (.int (nI c)), some (.int w), some (.int 0), some (.int (nI (smN (cgF (m 102) (fun j => m 101 (40 * r + i + j)) s n V P p c) u))), some (.int (nI (10 ^ n))), some (.int (nI u)), some (.int 1), none]) dX4_coughs_128 (Nat.le_of_ble_eq_true rfl) (Nat.le_of_ble_eq_true rfl) (jnl_at (i := 11) rfl) rfl ?_
                  refine e_iconst (v := 0) dX4_coughs_130 rfl ?_
                  refine e_istore (L' := [some (.ref 98), some (.int (nI p)), some (.int (nI s)), some (.int (nI r)), some (.int (nI i)), some (.int (nI n)), some (.int (nI c)), some (.int w), some (.int 0), some (.int (nI (smN (cgF (m 102) (fun j => m 101 (40 * r + i + j)) s n V P p c) u))), some (.int (nI (10 ^ n))), some (.int (nI u)), some (.int 1), some (.int 0)]) dX4_coughs_131 (Nat.le_of_ble_eq_true rfl) (Nat.le_of_ble_eq_true rfl) (jnl_at (i := 12) rfl) rfl ?_
                  refine e_loop 133 n (fun j => [some (.ref 98), some (.int (nI p)), some (.int (nI s)), some (.int (nI r)), some (.int (nI i)), some (.int (nI n)), some (.int (nI c)), some (.int w), some (.int 0), some (.int (nI (smN (cgF (m 102) (fun j => m 101 (40 * r + i + j)) s n V P p c) u))), some (.int (nI (10 ^ n))), some (.int (nI u)), some (.int (nI (prN c u j))), some (.int (nI j))]) (fun j => mm) 0 (Nat.zero_le _) rfl (rfl) ?_ ?_
                  · show jE _ _ 133 [some (.ref 98), some (.int (nI p)), some (.int (nI s)), some (.int (nI r)), some (.int (nI i)), some (.int (nI n)), some (.int (nI c)), some (.int w), some (.int 0), some (.int (nI (smN (cgF (m 102) (fun j => m 101 (40 * r + i + j)) s n V P p c) u))), some (.int (nI (10 ^ n))), some (.int (nI u)), some (.int (nI (prN c u n))), some (.int (nI n))] [] mm
                    refine e_iload dX4_coughs_133 rfl ?_
                    refine e_iload dX4_coughs_135 rfl ?_
                    refine e_icmp_ge 171 dX4_coughs_137 (by decide) (fun c137 => ?_) (fun h => absurd (j_done rfl rfl) h)
                    refine e_aload_n dX4_coughs_171 rfl ?_
                    refine e_iload_n dX4_coughs_172 rfl ?_
                    refine e_bipush (v := 40) dX4_coughs_173 rfl ?_
                    refine e_iload_n dX4_coughs_175 rfl ?_
                    refine e_imul dX4_coughs_176 ?_
                    refine e_iload dX4_coughs_177 rfl ?_
                    refine e_iadd dX4_coughs_179 ?_
                    rw [show (40 * (nI r)) + (nI i) = nI ((40 * r) + i) from (j_add (j_mul rfl rfl) rfl)]
                    refine e_iload dX4_coughs_180 rfl ?_
                    refine e_iload dX4_coughs_182 rfl ?_
                    refine e_callVv (n := 4) mX4_singAlone [.int (nI s), .int (nI ((40 * r) + i)), .int (nI n), .int (nI u)] dX4_coughs_184 ckX4_189 rfl (by decide +kernel) rfl rfl rfl rfl (Nat.le_of_ble_eq_true rfl) ⟨Nat.zero_le _, Nat.zero_le _⟩ (s_singAlone mm V hV (by rw [g102]; exact h1) P hP (by rw [g102]; exact h2) s (by omega) (40 * r + i) n (by omega) (nI u)) (fun ms hms => ?_)
                    obtain ⟨f2, hms⟩ := hms
                    refine e_iload dX4_coughs_187 rfl ?_
                    refine e_aload_n dX4_coughs_189 rfl ?_
                    refine e_getR (o := 4) (b := 102) dX4_coughs_190 lkX4_19 rfl rfl (by decide) rfl ?_
                    refine e_bipush (v := 41) dX4_coughs_193 rfl ?_
                    refine e_iload_n dX4_coughs_195 rfl ?_
                    refine e_iadd dX4_coughs_196 ?_
                    refine e_iald dX4_coughs_197 rfl (41 + p) (j_add rfl rfl) (by omega) (by decide) ?_
                    rw [show ms 102 (41 + p) = aloneB (m 102) s (fun j => m 101 (40 * r + i + j)) (nI u) V P n (41 + p) from by rw [hms, jup_s, g102, g101]]
                    refine e_iconst (v := 1) dX4_coughs_198 rfl ?_
                    refine e_icmp_ne 207 dX4_coughs_199 (by decide) (fun c199 => ?_) (fun c199 => ?_)
                    · refine e_iconst (v := 0) dX4_coughs_207 rfl ?_
                      refine e_iadd dX4_coughs_208 ?_
                      rw [show (nI (smN (cgF (m 102) (fun j => m 101 (40 * r + i + j)) s n V P p c) u)) + 0 = nI ((smN (cgF (m 102) (fun j => m 101 (40 * r + i + j)) s n V P p c) u) + 0) from (j_add rfl rfl)]
                      refine e_istore (L' := [some (.ref 98), some (.int (nI p)), some (.int (nI s)), some (.int (nI r)), some (.int (nI i)), some (.int (nI n)), some (.int (nI c)), some (.int w), some (.int 0), some (.int (nI ((smN (cgF (m 102) (fun j => m 101 (40 * r + i + j)) s n V P p c) u) + 0))), some (.int (nI (10 ^ n))), some (.int (nI u)), some (.int (nI (prN c u n))), some (.int (nI n))]) dX4_coughs_209 (Nat.le_of_ble_eq_true rfl) (Nat.le_of_ble_eq_true rfl) (jnl_at (i := 8) rfl) rfl ?_
                      refine e_aload_n dX4_coughs_211 rfl ?_
                      refine e_callVv (n := 0) mX4_takeBack [] dX4_coughs_212 ckX4_193 rfl (by decide +kernel) rfl rfl rfl rfl (Nat.le_of_ble_eq_true rfl) ⟨Nat.zero_le _, Nat.zero_le _⟩ (s_takeBack ms) (fun mt hmt => ?_)
                      refine e_iinc (v := nI (u + 1)) (L' := [some (.ref 98), some (.int (nI p)), some (.int (nI s)), some (.int (nI r)), some (.int (nI i)), some (.int (nI n)), some (.int (nI c)), some (.int w), some (.int 0), some (.int (nI ((smN (cgF (m 102) (fun j => m 101 (40 * r + i + j)) s n V P p c) u) + 0))), some (.int (nI (10 ^ n))), some (.int (nI (u + 1))), some (.int (nI (prN c u n))), some (.int (nI n))]) dX4_coughs_215 rfl (j_inc rfl) (by decide) (jnl_at (i := 10) rfl) rfl ?_
                      refine e_goto 118 dX4_coughs_218 (by decide) ?_
                      refine e_weak [some (.ref 98), some (.int (nI p)), some (.int (nI s)), some (.int (nI r)), some (.int (nI i)), some (.int (nI n)), some (.int (nI c)), some (.int w), some (.int 0), some (.int (nI ((smN (cgF (m 102) (fun j => m 101 (40 * r + i + j)) s n V P p c) u) + 0))), some (.int (nI (10 ^ n))), some (.int (nI (u + 1))), none, none] (by simp [jle]) ?_
                      have eF : cgF (m 102) (fun j => m 101 (40 * r + i + j)) s n V P p c u = 0 := if_neg (fun q => c199 (of_decide_eq_true q))
                      have eS : smN (cgF (m 102) (fun j => m 101 (40 * r + i + j)) s n V P p c) (u + 1) = smN (cgF (m 102) (fun j => m 101 (40 * r + i + j)) s n V P p c) u + 0 := by rw [← eF]; rfl
                      refine e_start (by simp only [eS]) rfl (ih f2 mt ?_)
                      rw [← hmt, hms, g102, g101, hI, jup_jup106]
                      exact bak_ex m f2 _ (fun j hj => aloneB_hi hV hP hj _)
                    · refine e_iload dX4_coughs_202 rfl ?_
                      refine e_goto 208 dX4_coughs_204 (by decide) ?_
                      refine e_iadd dX4_coughs_208 ?_
                      rw [show (nI (smN (cgF (m 102) (fun j => m 101 (40 * r + i + j)) s n V P p c) u)) + (nI (prN c u n)) = nI ((smN (cgF (m 102) (fun j => m 101 (40 * r + i + j)) s n V P p c) u) + (prN c u n)) from (j_add rfl rfl)]
                      refine e_istore (L' := [some (.ref 98), some (.int (nI p)), some (.int (nI s)), some (.int (nI r)), some (.int (nI i)), some (.int (nI n)), some (.int (nI c)), some (.int w), some (.int 0), some (.int (nI ((smN (cgF (m 102) (fun j => m 101 (40 * r + i + j)) s n V P p c) u) + (prN c u n)))), some (.int (nI (10 ^ n))), some (.int (nI u)), some (.int (nI (prN c u n))), some (.int (nI n))]) dX4_coughs_209 (Nat.le_of_ble_eq_true rfl) (Nat.le_of_ble_eq_true rfl) (jnl_at (i := 8) rfl) rfl ?_
                      refine e_aload_n dX4_coughs_211 rfl ?_
                      refine e_callVv (n := 0) mX4_takeBack [] dX4_coughs_212 ckX4_193 rfl (by decide +kernel) rfl rfl rfl rfl (Nat.le_of_ble_eq_true rfl) ⟨Nat.zero_le _, Nat.zero_le _⟩ (s_takeBack ms) (fun mt hmt => ?_)
                      refine e_iinc (v := nI (u + 1)) (L' := [some (.ref 98), some (.int (nI p)), some (.int (nI s)), some (.int (nI r)), some (.int (nI i)), some (.int (nI n)), some (.int (nI c)), some (.int w), some (.int 0), some (.int (nI ((smN (cgF (m 102) (fun j => m 101 (40 * r + i + j)) s n V P p c) u) + (prN c u n)))), some (.int (nI (10 ^ n))), some (.int (nI (u + 1))), some (.int (nI (prN c u n))), some (.int (nI n))]) dX4_coughs_215 rfl (j_inc rfl) (by decide) (jnl_at (i := 10) rfl) rfl ?_
                      refine e_goto 118 dX4_coughs_218 (by decide) ?_
                      refine e_weak [some (.ref 98), some (.int (nI p)), some (.int (nI s)), some (.int (nI r)), some (.int (nI i)), some (.int (nI n)), some (.int (nI c)), some (.int w), some (.int 0), some (.int (nI ((smN (cgF (m 102) (fun j => m 101 (40 * r + i + j)) s n V P p c) u) + (prN c u n)))), some (.int (nI (10 ^ n))), some (.int (nI (u + 1))), none, none] (by simp [jle]) ?_
                      have eF : cgF (m 102) (fun j => m 101 (40 * r + i + j)) s n V P p c u = prN c u n := if_pos (decide_eq_true c199)
                      have eS : smN (cgF (m 102) (fun j => m 101 (40 * r + i + j)) s n V P p c) (u + 1) = smN (cgF (m 102) (fun j => m 101 (40 * r + i + j)) s n V P p c) u + prN c u n := by rw [← eF]; rfl
                      refine e_start (by simp only [eS]) rfl (ih f2 mt ?_)
                      rw [← hmt, hms, g102, g101, hI, jup_jup106]
                      exact bak_ex m f2 _ (fun j hj => aloneB_hi hV hP hj _)
                  · intro j hk2 ih2
                    show jE _ _ 133 [some (.ref 98), some (.int (nI p)), some (.int (nI s)), some (.int (nI r)), some (.int (nI i)), some (.int (nI n)), some (.int (nI c)), some (.int w), some (.int 0), some (.int (nI (smN (cgF (m 102) (fun j => m 101 (40 * r + i + j)) s n V P p c) u))), some (.int (nI (10 ^ n))), some (.int (nI u)), some (.int (nI (prN c u j))), some (.int (nI j))] [] mm
                    refine e_iload dX4_coughs_133 rfl ?_
                    refine e_iload dX4_coughs_135 rfl ?_
                    refine e_icmp_ge 171 dX4_coughs_137 (by decide) (fun h => absurd h (j_more (N := n) rfl rfl (by omega) (by omega))) (fun c137 => ?_)
                    refine e_iload dX4_coughs_140 rfl ?_
                    refine e_iload dX4_coughs_142 rfl ?_
                    refine e_iload dX4_coughs_144 rfl ?_
                    refine e_callSi (n := 2) mX4_has [.int (nI u), .int (nI j)] dX4_coughs_146 ckX4_149 rfl (by decide +kernel) rfl rfl (Nat.le_of_ble_eq_true rfl) ⟨Nat.zero_le _, Nat.zero_le _⟩ (s_has (nI u) (nI j) mm) (fun v146 m14 hm14 => ?_)
                    rcases hm14 with ⟨rfl, ⟨rfl, q9⟩ | ⟨rfl, q9⟩⟩
                    · refine e_if_eq 157 dX4_coughs_149 (by decide) (fun h => absurd h (by decide)) (fun c149 => ?_)
                      have eb : u / 2 ^ j % 2 = 1 := by have := btI_N (k := u) (j := j) (by omega) (by omega); rw [btI_t q9] at this; exact of_decide_eq_true this.symm
                      refine e_iload dX4_coughs_152 rfl ?_
                      refine e_goto 162 dX4_coughs_154 (by decide) ?_
                      refine e_imul dX4_coughs_162 ?_
                      rw [show (nI (prN c u j)) * (nI c) = nI (prN c u (j + 1)) from (pk_mul _ _).trans (congrArg nI (congrArg (fun z => prN c u j * z) (by first | exact (if_pos eb).symm | exact (if_neg eb).symm)))]
                      refine e_istore (L' := [some (.ref 98), some (.int (nI p)), some (.int (nI s)), some (.int (nI r)), some (.int (nI i)), some (.int (nI n)), some (.int (nI c)), some (.int w), some (.int 0), some (.int (nI (smN (cgF (m 102) (fun j => m 101 (40 * r + i + j)) s n V P p c) u))), some (.int (nI (10 ^ n))), some (.int (nI u)), some (.int (nI (prN c u (j + 1)))), some (.int (nI j))]) dX4_coughs_163 (Nat.le_of_ble_eq_true rfl) (Nat.le_of_ble_eq_true rfl) (jnl_at (i := 11) rfl) rfl ?_
                      refine e_iinc (v := nI (j + 1)) (L' := [some (.ref 98), some (.int (nI p)), some (.int (nI s)), some (.int (nI r)), some (.int (nI i)), some (.int (nI n)), some (.int (nI c)), some (.int w), some (.int 0), some (.int (nI (smN (cgF (m 102) (fun j => m 101 (40 * r + i + j)) s n V P p c) u))), some (.int (nI (10 ^ n))), some (.int (nI u)), some (.int (nI (prN c u (j + 1)))), some (.int (nI (j + 1)))]) dX4_coughs_165 rfl (j_inc rfl) (by decide) (jnl_at (i := 12) rfl) rfl ?_
                      refine e_goto 133 dX4_coughs_168 (by decide) ?_
                      exact ih2
                    · refine e_if_eq 157 dX4_coughs_149 (by decide) (fun c149 => ?_) (fun h => absurd h (by decide))
                      have eb : ¬ u / 2 ^ j % 2 = 1 := by have := btI_N (k := u) (j := j) (by omega) (by omega); rw [btI_f q9] at this; exact of_decide_eq_false this.symm
                      refine e_bipush (v := 10) dX4_coughs_157 rfl ?_
                      refine e_iload dX4_coughs_159 rfl ?_
                      refine e_isub dX4_coughs_161 ?_
                      rw [show 10 - (nI c) = nI (10 - c) from pk_sub (a := 10) (b := c) hc]
                      refine e_imul dX4_coughs_162 ?_
                      rw [show (nI (prN c u j)) * (nI (10 - c)) = nI (prN c u (j + 1)) from (pk_mul _ _).trans (congrArg nI (congrArg (fun z => prN c u j * z) (by first | exact (if_pos eb).symm | exact (if_neg eb).symm)))]
                      refine e_istore (L' := [some (.ref 98), some (.int (nI p)), some (.int (nI s)), some (.int (nI r)), some (.int (nI i)), some (.int (nI n)), some (.int (nI c)), some (.int w), some (.int 0), some (.int (nI (smN (cgF (m 102) (fun j => m 101 (40 * r + i + j)) s n V P p c) u))), some (.int (nI (10 ^ n))), some (.int (nI u)), some (.int (nI (prN c u (j + 1)))), some (.int (nI j))]) dX4_coughs_163 (Nat.le_of_ble_eq_true rfl) (Nat.le_of_ble_eq_true rfl) (jnl_at (i := 11) rfl) rfl ?_
                      refine e_iinc (v := nI (j + 1)) (L' := [some (.ref 98), some (.int (nI p)), some (.int (nI s)), some (.int (nI r)), some (.int (nI i)), some (.int (nI n)), some (.int (nI c)), some (.int w), some (.int 0), some (.int (nI (smN (cgF (m 102) (fun j => m 101 (40 * r + i + j)) s n V P p c) u))), some (.int (nI (10 ^ n))), some (.int (nI u)), some (.int (nI (prN c u (j + 1)))), some (.int (nI (j + 1)))]) dX4_coughs_165 rfl (j_inc rfl) (by decide) (jnl_at (i := 12) rfl) rfl ?_
                      refine e_goto 133 dX4_coughs_168 (by decide) ?_
                      exact ih2
              · intro u hk ih
                show jE _ _ 95 [some (.ref 98), some (.int (nI p)), some (.int (nI s)), some (.int (nI r)), some (.int (nI i)), some (.int (nI n)), some (.int (nI c)), some (.int w), some (.int 0), some (.int 0), some (.int (nI (10 ^ u))), some (.int (nI u)), none, none] [] mp
                refine e_iload dX4_coughs_95 rfl ?_
                refine e_iload dX4_coughs_97 rfl ?_
                refine e_icmp_ge 115 dX4_coughs_99 (by decide) (fun h => absurd h (j_more (N := n) rfl rfl (by omega) (by omega))) (fun c99 => ?_)
                refine e_iload dX4_coughs_102 rfl ?_
                refine e_bipush (v := 10) dX4_coughs_104 rfl ?_
                refine e_imul dX4_coughs_106 ?_
                rw [show (nI (10 ^ u)) * 10 = nI (10 ^ (u + 1)) from (j_mul rfl (show (10 : Int32) = nI 10 from rfl)).trans (by rw [Nat.pow_succ])]
                refine e_istore (L' := [some (.ref 98), some (.int (nI p)), some (.int (nI s)), some (.int (nI r)), some (.int (nI i)), some (.int (nI n)), some (.int (nI c)), some (.int w), some (.int 0), some (.int 0), some (.int (nI (10 ^ (u + 1)))), some (.int (nI u)), none, none]) dX4_coughs_107 (Nat.le_of_ble_eq_true rfl) (Nat.le_of_ble_eq_true rfl) (jnl_at (i := 9) rfl) rfl ?_
                refine e_iinc (v := nI (u + 1)) (L' := [some (.ref 98), some (.int (nI p)), some (.int (nI s)), some (.int (nI r)), some (.int (nI i)), some (.int (nI n)), some (.int (nI c)), some (.int w), some (.int 0), some (.int 0), some (.int (nI (10 ^ (u + 1)))), some (.int (nI (u + 1))), none, none]) dX4_coughs_109 rfl (j_inc rfl) (by decide) (jnl_at (i := 10) rfl) rfl ?_
                refine e_goto 95 dX4_coughs_112 (by decide) ?_
                exact ih
            · exact False.elim (q3 hw2)
          · exact False.elim (q7 (inN_nI (by decide) (by omega)))
        · exact False.elim (q2 (inN_nI (by decide) (by omega)))
      · exact False.elim (q1 (inN_nI (by decide) hr))
    · exact False.elim (q6 (inN_nI (by omega) hs))
  · exact False.elim (q5 (inN_nI (by omega) hp))
