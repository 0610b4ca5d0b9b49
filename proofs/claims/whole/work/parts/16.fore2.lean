/-- a tune of n items of the row r from i on stands -/
def tuneOK (m : jM) (r : Nat) (i : Int32) (n : Nat) : Prop := ∃ i' k : Nat, i = nI i' ∧ k ≤ 40 ∧ m 100 r = nI k ∧ i' + n ≤ k ∧ goodB (m 101) (40 * r + i') n = true
def lackV (m : jM) (r : Nat) (i : Int32) (n : Nat) : Int32 := if m 100 r = -1 then -1000011 else if ¬ (0 ≤ i ∧ i ≤ m 100 r - nI n) then -1000012 else -1000001
def lackM (m : jM) (r : Nat) (i : Int32) (n : Nat) : jM := if m 100 r = -1 then jst m 98 3 1 else if ¬ (0 ≤ i ∧ i ≤ m 100 r - nI n) then jst m 98 3 2 else m
def szOK (m : jM) (r : Nat) : Prop := m 100 r = -1 ∨ ∃ k : Nat, k ≤ 40 ∧ m 100 r = nI k
theorem nI_nm1 {k : Nat} (h : k < 2 ^ 31) : ¬ nI k = -1 := fun q => by
  have := congrArg Int32.toInt q
  rw [nI_toInt h] at this
  have e : (-1 : Int32).toInt = -1 := rfl
  omega
theorem lackV_neg (m : jM) (r : Nat) (i : Int32) (n : Nat) : lackV m r i n < 0 := by
  unfold lackV
  split
  · decide
  · split <;> decide
theorem reach_nat {i : Int32} {k n : Nat} (hk : k ≤ 40) (hn : n ≤ 16) (h : 0 ≤ i ∧ i ≤ nI k - nI n) : ∃ i' : Nat, i = nI i' ∧ i' + n ≤ k := by
  obtain ⟨j, hj, rfl⟩ := nI_of (Int32.not_lt.mpr h.1)
  refine ⟨j, rfl, ?_⟩
  have := Int32.le_iff_toInt_le.mp h.2
  rw [nI_toInt hj, pk_sub_toInt (by omega) (by omega)] at this
  omega
theorem s_lacksF (m : jM) (r : Nat) (hr : r < 8) (n : Nat) (hn : n ≤ 16) (i : Int32) (hs : szOK m r) (h : ¬ tuneOK m r i n) : iX mX4_lacks [.ref 98, .int (nI r), .int i, .int (nI n)] m (fun v m1 => v = lackV m r i n ∧ lackM m r i n = m1) := by
  unfold lackV lackM
  rcases hs with h0 | ⟨k, hk, h0⟩
  · rw [if_pos h0, if_pos h0]
    exact s_lacks_n m r hr n hn i h0
  · have e : ¬ m 100 r = -1 := by rw [h0]; exact nI_nm1 (by omega)
    rw [if_neg e, if_neg e]
    by_cases hp : 0 ≤ i ∧ i ≤ nI k - nI n
    · rw [h0, if_neg (fun q => q hp), if_neg (fun q => q hp)]
      obtain ⟨i', rfl, hi⟩ := reach_nat hk hn hp
      have hg : ¬ goodB (m 101) (40 * r + i') n = true := fun q => h ⟨i', k, rfl, hk, h0, hi, q⟩
      have := s_lacks m r hr n hn i' k hk h0 hi
      rw [if_neg hg] at this
      exact this
    · rw [h0, if_pos hp, if_pos hp]
      exact s_lacks_p m r hr n hn i k hk h0 hp
theorem s_lacksT (m : jM) (r : Nat) (hr : r < 8) (n : Nat) (hn : n ≤ 16) (i k : Nat) (hk : k ≤ 40) (h0 : m 100 r = nI k) (hi : i + n ≤ k) (hg : goodB (m 101) (40 * r + i) n = true) : iX mX4_lacks [.ref 98, .int (nI r), .int (nI i), .int (nI n)] m (fun v m1 => v = 0 ∧ m = m1) := by
  have := s_lacks m r hr n hn i k hk h0 hi
  rw [if_pos hg] at this
  exact this
/-- put aside, and taken back: only the row put aside has changed -/
def asdM (m : jM) : jM := jup m 108 (va_cpy (m 102) (m 108) 0 0 51)
def bakM (m : jM) : jM := jup m 102 (va_cpy (m 108) (m 102) 0 0 51)
/-- two rows of the reference's kitchen that are one in all 51 places -/
def r51 (f g : Nat → Int32) : Prop := ∀ j, j < 51 → f j = g j
theorem bak_row {m : jM} : r51 (bakM m 102) (m 108) := by
  intro j hj
  unfold bakM
  rw [jup_s]
  unfold va_cpy
  rw [if_pos (by omega), Nat.zero_add, Nat.sub_zero]
theorem asd_row {m : jM} : r51 (asdM m 108) (m 102) := by
  intro j hj
  unfold asdM
  rw [jup_s]
  unfold va_cpy
  rw [if_pos (by omega), Nat.zero_add, Nat.sub_zero]
theorem setP3_hi {st : Nat → Int32} {p : Nat} {t l : Int32} {i : Nat} (hp : p < 5) (h : 51 ≤ i) : setP3 st p t l i = st i := by
  unfold setP3
  rw [upd_n _ _ (by omega), upd_n _ _ (by omega), upd_n _ _ (by omega)]
theorem panB_hi {st nt : Nat → Int32} {V p i : Nat} (hp : p < 5) (h : 51 ≤ i) : panB st nt V p i = st i := by
  unfold panB
  by_cases c : st (41 + p) = 1
  · rw [if_pos c, upd_n _ _ (by omega)]
  · rw [if_neg c]
    exact setP3_hi hp h
theorem pansB_hi {st nt : Nat → Int32} {V i : Nat} (h : 51 ≤ i) : ∀ k, k ≤ 5 → pansB st nt V k i = st i
  | 0, _ => rfl
  | k + 1, hk => (panB_hi (by omega) h).trans (pansB_hi h k (by omega))
theorem oneB_hi {st nt : Nat → Int32} {V P i : Nat} (hV : V ≤ 3) (hP : P ≤ 5) (h : 51 ≤ i) : oneB st nt V P i = st i := by
  unfold oneB barB
  rw [upd_n _ _ (by omega), runsB_lo (by omega) V hV, pansB_hi h P hP]
theorem aloneB_hi {st : Nat → Int32} {s : Nat} {tn : Nat → Int32} {c : Int32} {V P i : Nat} (hV : V ≤ 3) (hP : P ≤ 5) (h : 51 ≤ i) : ∀ k, aloneB st s tn c V P k i = st i
  | 0 => rfl
  | k + 1 => (oneB_hi hV hP h).trans (aloneB_hi hV hP h k)
theorem roundB_hi {st : Nat → Int32} {tn : Nat → Int32} {d n V P i : Nat} (hV : V ≤ 3) (hP : P ≤ 5) (h : 51 ≤ i) : ∀ k, roundB st tn d n V P k i = st i
  | 0 => rfl
  | k + 1 => (oneB_hi hV hP h).trans (roundB_hi hV hP h k)
theorem bak_ex (m : jM) (f X : Nat → Int32) (hX : ∀ j, 51 ≤ j → X j = m 102 j) : bakM (jup (jup (asdM m) 106 f) 102 X) = jup (asdM m) 106 f := by
  have e : va_cpy (asdM m 108) X 0 0 51 = m 102 := by
    funext j
    by_cases h : j < 51
    · unfold va_cpy
      rw [if_pos (by omega), Nat.zero_add, Nat.sub_zero]
      exact asd_row j h
    · unfold va_cpy
      rw [if_neg (by omega)]
      exact hX j (by omega)
  unfold bakM
  rw [jup_s, jup_n _ _ (by decide), jup_n _ _ (by decide), e, jup_jup]
  have e2 : (jup (asdM m) 106 f) 102 = m 102 := by
    unfold asdM
    rw [jup_n _ _ (by decide), jup_n _ _ (by decide)]
  rw [← e2]
  exact jup_id _ _
/-- what a mark's bit is -/
def popc (k : Nat) : Nat := k % 2 + k / 2 % 2 + k / 4 % 2 + k / 8 % 2 + k / 16 % 2 + k / 32 % 2 + k / 64 % 2 + k / 128 % 2
theorem pop_step : ∀ k, k < 256 → (k = 0 ∨ (k &&& (k - 1) < k ∧ popc (k &&& (k - 1)) + 1 = popc k)) := fun k hk => co_dec (P := fun k => k = 0 ∨ (k &&& (k - 1) < k ∧ popc (k &&& (k - 1)) + 1 = popc k)) (by decide +kernel) hk
def d01 (st : Nat → Int32) (P : Nat) : Prop := ∀ p, p < P → st (41 + p) = 0 ∨ st (41 + p) = 1
def setN (st : Nat → Int32) : Nat → Nat
  | 0 => 0
  | k + 1 => setN st k + (if st (41 + k) = 1 then 2 ^ k else 0)
theorem setN_lt (st : Nat → Int32) : ∀ k, setN st k < 2 ^ k
  | 0 => Nat.zero_lt_one
  | k + 1 => by
    have := setN_lt st k
    unfold setN
    have e : 2 ^ (k + 1) = 2 ^ k + 2 ^ k := by rw [Nat.pow_succ]; omega
    split <;> omega
theorem setB_N {st : Nat → Int32} : ∀ k, k ≤ 5 → d01 st k → setB st k = nI (setN st k)
  | 0, _, _ => rfl
  | k + 1, hk, h => by
    have ih := setB_N k (by omega) (fun p hp => h p (by omega))
    unfold setB setN
    rw [ih]
    have hl := setN_lt st k
    rcases h k (by omega) with e | e
    · rw [e, if_neg (by decide)]
      have : ∀ k, k < 5 → (0 : Int32) <<< (nI k &&& 31) = nI 0 := fun k hk => co_dec (P := fun k => (0 : Int32) <<< (nI k &&& 31) = nI 0) (by decide +kernel) hk
      rw [this k (by omega)]
      have h0 : ∀ a, a < 32 → nI a ||| nI 0 = nI (a + 0) := fun a ha => co_dec (P := fun a => nI a ||| nI 0 = nI (a + 0)) (by decide +kernel) ha
      exact h0 _ (Nat.lt_of_lt_of_le hl (Nat.pow_le_pow_right (by decide) (by omega : k ≤ 5)))
    · rw [e, if_pos rfl]
      have : ∀ k, k < 5 → (1 : Int32) <<< (nI k &&& 31) = nI (2 ^ k) := fun k hk => co_dec (P := fun k => (1 : Int32) <<< (nI k &&& 31) = nI (2 ^ k)) (by decide +kernel) hk
      rw [this k (by omega)]
      have h1 : ∀ k, k < 5 → ∀ a, a < 2 ^ k → nI a ||| nI (2 ^ k) = nI (a + 2 ^ k) := by
        intro k hk
        have : k = 0 ∨ k = 1 ∨ k = 2 ∨ k = 3 ∨ k = 4 := by omega
        rcases this with rfl | rfl | rfl | rfl | rfl <;> exact fun a ha => co_dec (P := fun a => nI a ||| nI (2 ^ _) = nI (a + 2 ^ _)) (by decide +kernel) ha
      exact h1 k (by omega) _ hl
theorem setP3_01 {st : Nat → Int32} {p : Nat} {t l : Int32} {P : Nat} (hp : p < 5) (hP : P ≤ 5) (h : d01 st P) : d01 (setP3 st p t l) P := by
  intro q hq
  unfold setP3
  rw [upd_n _ _ (by omega)]
  by_cases e : q = p
  · subst e
    rw [upd_s]
    split
    · exact Or.inr rfl
    · exact Or.inl rfl
  · rw [upd_n _ _ (by omega), upd_n _ _ (by omega)]
    exact h q hq
theorem panB_01 {st nt : Nat → Int32} {V p P : Nat} (hp : p < 5) (hP : P ≤ 5) (h : d01 st P) : d01 (panB st nt V p) P := by
  unfold panB
  by_cases c : st (41 + p) = 1
  · rw [if_pos c]
    intro q hq
    rw [upd_n _ _ (by omega)]
    exact h q hq
  · rw [if_neg c]
    exact setP3_01 hp hP h
theorem pansB_01 {st nt : Nat → Int32} {V P : Nat} (hP : P ≤ 5) (h : d01 st P) : ∀ k, k ≤ 5 → d01 (pansB st nt V k) P
  | 0, _ => h
  | k + 1, hk => panB_01 (by omega) hP (pansB_01 hP h k (by omega))
theorem oneB_01 {st nt : Nat → Int32} {V P : Nat} (hV : V ≤ 3) (hP : P ≤ 5) (h : d01 st P) : d01 (oneB st nt V P) P := by
  intro q hq
  unfold oneB barB
  rw [upd_n _ _ (by omega), runsB_lo (by omega) V hV]
  exact pansB_01 hP h P hP q hq
theorem aloneB_01 {st : Nat → Int32} {s : Nat} {tn : Nat → Int32} {c : Int32} {V P : Nat} (hV : V ≤ 3) (hP : P ≤ 5) (h : d01 st P) : ∀ k, d01 (aloneB st s tn c V P k) P
  | 0 => h
  | k + 1 => oneB_01 hV hP (aloneB_01 hV hP h k)
theorem roundB_01 {st : Nat → Int32} {tn : Nat → Int32} {d n V P : Nat} (hV : V ≤ 3) (hP : P ≤ 5) (h : d01 st P) : ∀ k, d01 (roundB st tn d n V P k) P
  | 0 => h
  | k + 1 => oneB_01 hV hP (roundB_01 hV hP h k)
set_option maxHeartbeats 2000000 in
set_option maxRecDepth 20000 in
theorem s_singRound (m : jM) (V : Nat) (hV : V ≤ 3) (h1 : m 102 1 = nI V) (P : Nat) (hP : P ≤ 5) (h2 : m 102 2 = nI P) (d o n : Nat) (hd : d ≤ 8) (hn : n ≤ 16) (ho : o + n ≤ 320) : vX mX4_singRound [.ref 98, .int (nI d), .int (nI o), .int (nI n)] m (fun m1 => ∃ f, m1 = jup (jup m 106 f) 102 (roundB (m 102) (fun j => m 101 (o + j)) d n V P (rlen d n V))) := by
  refine jX_of (L := [some (.ref 98), some (.int (nI d)), some (.int (nI o)), some (.int (nI n)), none, none, none, none, none]) 5 rfl rfl (by decide +kernel) rfl ?_
  refine e_aload_n dX4_singRound_0 rfl ?_
  refine e_getR (o := 4) (b := 102) dX4_singRound_1 lkX4_19 rfl rfl (by decide) rfl ?_
  refine e_iconst (v := 1) dX4_singRound_4 rfl ?_
  refine e_iald dX4_singRound_5 rfl 1 rfl (by decide) (by decide) ?_
  rw [show m 102 1 = nI V from h1]
  refine e_if_ne 13 dX4_singRound_6 (by decide) (fun c6 => ?_) (fun c6 => ?_)
  · have hv0 : ¬ V = 0 := fun q => c6 (by rw [q]; rfl)
    refine e_iload_n dX4_singRound_13 rfl ?_
    refine e_aload_n dX4_singRound_14 rfl ?_
    refine e_getR (o := 4) (b := 102) dX4_singRound_15 lkX4_19 rfl rfl (by decide) rfl ?_
    refine e_iconst (v := 1) dX4_singRound_18 rfl ?_
    refine e_iald dX4_singRound_19 rfl 1 rfl (by decide) (by decide) ?_
    rw [show m 102 1 = nI V from h1]
    refine e_iconst (v := 1) dX4_singRound_20 rfl ?_
    refine e_isub dX4_singRound_21 ?_
    rw [show (nI V) - 1 = nI (V - 1) from pk_sub (a := V) (b := 1) (by omega)]
    refine e_imul dX4_singRound_22 ?_
    rw [show (nI d) * (nI (V - 1)) = nI (d * (V - 1)) from pk_mul _ _]
    refine e_istore (L' := [some (.ref 98), some (.int (nI d)), some (.int (nI o)), some (.int (nI n)), some (.int (nI (d * (V - 1)))), none, none, none, none]) dX4_singRound_23 (Nat.le_of_ble_eq_true rfl) (Nat.le_of_ble_eq_true rfl) (jnl_at (i := 3) rfl) rfl ?_
    exact s_sr25 m V hV h1 P hP h2 d o n (d * (V - 1)) hd hn ho (by unfold rlen; rw [if_neg hv0]) (by have : d * (V - 1) ≤ 8 * 2 := Nat.mul_le_mul hd (by omega); omega)
  · have hv0 : V = 0 := (j_eq (a := V) (b := 0) (by omega) (by decide)).mp c6
    refine e_iconst (v := 0) dX4_singRound_9 rfl ?_
    refine e_goto 23 dX4_singRound_10 (by decide) ?_
    refine e_istore (L' := [some (.ref 98), some (.int (nI d)), some (.int (nI o)), some (.int (nI n)), some (.int 0), none, none, none, none]) dX4_singRound_23 (Nat.le_of_ble_eq_true rfl) (Nat.le_of_ble_eq_true rfl) (jnl_at (i := 3) rfl) rfl ?_
    exact s_sr25 m V hV h1 P hP h2 d o n 0 hd hn ho (by unfold rlen; rw [if_pos hv0]) (by omega)

set_option maxHeartbeats 2000000 in
set_option maxRecDepth 20000 in
theorem s_Dalone_b (m : jM) (V : Nat) (hV : V ≤ 3) (h1 : m 102 1 = nI V) (x y i z : Int32) (hb : ¬ (inN x V ∧ inN y 8 ∧ inN z 17)) : iX mX4_alone [.ref 98, .int x, .int y, .int i, .int z] m (fun v m1 => v = -1000001 ∧ m = m1) := by
  refine jX_of (L := [some (.ref 98), some (.int x), some (.int y), some (.int i), some (.int z), none, none]) 2 rfl rfl (by decide +kernel) rfl ?_
  refine e_aload_n dX4_alone_0 rfl ?_
  refine e_iload_n dX4_alone_1 rfl ?_
  refine e_callVi (n := 1) mX4_isSinger [.int x] dX4_alone_2 ckX4_174 rfl (by decide +kernel) rfl rfl rfl rfl (Nat.le_of_ble_eq_true rfl) ⟨Nat.zero_le _, Nat.zero_le _⟩ (s_sngN x m V hV h1) (fun v2 m1 hm1 => ?_)
  rcases hm1 with ⟨rfl, ⟨rfl, q⟩ | ⟨rfl, q⟩⟩
  · refine e_if_eq 28 dX4_alone_5 (by decide) (fun h => absurd h (by decide)) (fun c5 => ?_)
    refine e_iload_n dX4_alone_8 rfl ?_
    refine e_callSi (n := 1) mX4_isRow [.int y] dX4_alone_9 ckX4_64 rfl (by decide +kernel) rfl rfl (Nat.le_of_ble_eq_true rfl) ⟨Nat.zero_le _, Nat.zero_le _⟩ (s_rowN y m) (fun v9 m2 hm2 => ?_)
    rcases hm2 with ⟨rfl, ⟨rfl, q1⟩ | ⟨rfl, q1⟩⟩
    · refine e_if_eq 28 dX4_alone_12 (by decide) (fun h => absurd h (by decide)) (fun c12 => ?_)
      refine e_iload dX4_alone_15 rfl ?_
      refine e_i2l dX4_alone_17 ?_
      refine e_lconst (v := 0) dX4_alone_18 rfl ?_
      refine e_ldc2 dX4_alone_19 kkX4_180 ?_
      refine e_callSi (n := 3) mX4_in [.long (Int32.toInt64 z), .long 0, .long (16)] dX4_alone_22 ckX4_60 rfl (by decide +kernel) rfl rfl (Nat.le_of_ble_eq_true rfl) ⟨Nat.zero_le _, Nat.zero_le _⟩ (s_inN z (16) 17 (by decide) (by decide) m) (fun v22 m3 hm3 => ?_)
      rcases hm3 with ⟨rfl, ⟨rfl, q2⟩ | ⟨rfl, q2⟩⟩
      · exact False.elim (hb ⟨q, q1, q2⟩)
      · refine e_if_ne 31 dX4_alone_25 (by decide) (fun h => absurd h (by decide)) (fun c25 => ?_)
        refine e_ldc dX4_alone_28 kkX4_70 ?_
        exact e_iret dX4_alone_30 rfl (⟨rfl, rfl⟩)
    · refine e_if_eq 28 dX4_alone_12 (by decide) (fun c12 => ?_) (fun h => absurd h (by decide))
      refine e_ldc dX4_alone_28 kkX4_70 ?_
      exact e_iret dX4_alone_30 rfl (⟨rfl, rfl⟩)
  · refine e_if_eq 28 dX4_alone_5 (by decide) (fun c5 => ?_) (fun h => absurd h (by decide))
    refine e_ldc dX4_alone_28 kkX4_70 ?_
    exact e_iret dX4_alone_30 rfl (⟨rfl, rfl⟩)

set_option maxHeartbeats 2000000 in
set_option maxRecDepth 20000 in
theorem s_Dalone_f (m : jM) (V : Nat) (hV : V ≤ 3) (h1 : m 102 1 = nI V) (s : Nat) (hs : s < V) (r : Nat) (hr : r < 8) (n : Nat) (hn : n ≤ 16) (i : Int32) (hsz : szOK m r) (htn : ¬ tuneOK m r i n) : iX mX4_alone [.ref 98, .int (nI s), .int (nI r), .int i, .int (nI n)] m (fun v m1 => v = lackV m r i n ∧ lackM m r i n = m1) := by
  refine jX_of (L := [some (.ref 98), some (.int (nI s)), some (.int (nI r)), some (.int i), some (.int (nI n)), none, none]) 2 rfl rfl (by decide +kernel) rfl ?_
  refine e_aload_n dX4_alone_0 rfl ?_
  refine e_iload_n dX4_alone_1 rfl ?_
  refine e_callVi (n := 1) mX4_isSinger [.int (nI s)] dX4_alone_2 ckX4_174 rfl (by decide +kernel) rfl rfl rfl rfl (Nat.le_of_ble_eq_true rfl) ⟨Nat.zero_le _, Nat.zero_le _⟩ (s_sngN (nI s) m V hV h1) (fun v2 m1 hm1 => ?_)
  rcases hm1 with ⟨rfl, ⟨rfl, q⟩ | ⟨rfl, q⟩⟩
  · refine e_if_eq 28 dX4_alone_5 (by decide) (fun h => absurd h (by decide)) (fun c5 => ?_)
    refine e_iload_n dX4_alone_8 rfl ?_
    refine e_callSi (n := 1) mX4_isRow [.int (nI r)] dX4_alone_9 ckX4_64 rfl (by decide +kernel) rfl rfl (Nat.le_of_ble_eq_true rfl) ⟨Nat.zero_le _, Nat.zero_le _⟩ (s_rowN (nI r) m) (fun v9 m2 hm2 => ?_)
    rcases hm2 with ⟨rfl, ⟨rfl, q1⟩ | ⟨rfl, q1⟩⟩
    · refine e_if_eq 28 dX4_alone_12 (by decide) (fun h => absurd h (by decide)) (fun c12 => ?_)
      refine e_iload dX4_alone_15 rfl ?_
      refine e_i2l dX4_alone_17 ?_
      refine e_lconst (v := 0) dX4_alone_18 rfl ?_
      refine e_ldc2 dX4_alone_19 kkX4_180 ?_
      refine e_callSi (n := 3) mX4_in [.long (Int32.toInt64 (nI n)), .long 0, .long (16)] dX4_alone_22 ckX4_60 rfl (by decide +kernel) rfl rfl (Nat.le_of_ble_eq_true rfl) ⟨Nat.zero_le _, Nat.zero_le _⟩ (s_inN (nI n) (16) 17 (by decide) (by decide) m) (fun v22 m3 hm3 => ?_)
      rcases hm3 with ⟨rfl, ⟨rfl, q2⟩ | ⟨rfl, q2⟩⟩
      · refine e_if_ne 31 dX4_alone_25 (by decide) (fun c25 => ?_) (fun h => absurd h (by decide))
        refine e_aload_n dX4_alone_31 rfl ?_
        refine e_iload_n dX4_alone_32 rfl ?_
        refine e_iload_n dX4_alone_33 rfl ?_
        refine e_iload dX4_alone_34 rfl ?_
        refine e_callVi (n := 3) mX4_lacks [.int (nI r), .int i, .int (nI n)] dX4_alone_36 ckX4_182 rfl (by decide +kernel) rfl rfl rfl rfl (Nat.le_of_ble_eq_true rfl) ⟨Nat.zero_le _, Nat.zero_le _⟩ (s_lacksF m r hr n hn i hsz htn) (fun v36 ml hml => ?_)
        obtain ⟨rfl, hlk⟩ := hml
        refine e_istore (L' := [some (.ref 98), some (.int (nI s)), some (.int (nI r)), some (.int i), some (.int (nI n)), some (.int (lackV m r i n)), none]) dX4_alone_39 (Nat.le_of_ble_eq_true rfl) (Nat.le_of_ble_eq_true rfl) (jnl_at (i := 4) rfl) rfl ?_
        refine e_iload dX4_alone_41 rfl ?_
        refine e_if_ge 49 dX4_alone_43 (by decide) (fun h => absurd (lackV_neg m r i n) (Int32.not_lt.mpr h)) (fun c43 => ?_)
        refine e_iload dX4_alone_46 rfl ?_
        exact e_iret dX4_alone_48 rfl (⟨rfl, hlk⟩)
      · exact False.elim (q2 (inN_nI (by decide) (by omega)))
    · exact False.elim (q1 (inN_nI (by decide) hr))
  · exact False.elim (q (inN_nI (by omega) hs))

set_option maxHeartbeats 2000000 in
set_option maxRecDepth 20000 in
theorem s_Dalone (m : jM) (V : Nat) (hV : V ≤ 3) (h1 : m 102 1 = nI V) (P : Nat) (hP : P ≤ 5) (h2 : m 102 2 = nI P) (s : Nat) (hs : s < V) (r : Nat) (hr : r < 8) (n : Nat) (hn : n ≤ 16) (i k : Nat) (hk : k ≤ 40) (hsz : m 100 r = nI k) (hik : i + n ≤ k) (hgd : goodB (m 101) (40 * r + i) n = true) : iX mX4_alone [.ref 98, .int (nI s), .int (nI r), .int (nI i), .int (nI n)] m (fun v m1 => v = setB (aloneB (m 102) s (fun j => m 101 (40 * r + i + j)) 0 V P n) P ∧ ∃ f, m1 = jst (bakM (jup (jup (asdM m) 106 f) 102 (aloneB (m 102) s (fun j => m 101 (40 * r + i + j)) 0 V P n))) 98 3 0) := by
  refine jX_of (L := [some (.ref 98), some (.int (nI s)), some (.int (nI r)), some (.int (nI i)), some (.int (nI n)), none, none]) 2 rfl rfl (by decide +kernel) rfl ?_
  refine e_aload_n dX4_alone_0 rfl ?_
  refine e_iload_n dX4_alone_1 rfl ?_
  refine e_callVi (n := 1) mX4_isSinger [.int (nI s)] dX4_alone_2 ckX4_174 rfl (by decide +kernel) rfl rfl rfl rfl (Nat.le_of_ble_eq_true rfl) ⟨Nat.zero_le _, Nat.zero_le _⟩ (s_sngN (nI s) m V hV h1) (fun v2 m1 hm1 => ?_)
  rcases hm1 with ⟨rfl, ⟨rfl, q⟩ | ⟨rfl, q⟩⟩
  · refine e_if_eq 28 dX4_alone_5 (by decide) (fun h => absurd h (by decide)) (fun c5 => ?_)
    refine e_iload_n dX4_alone_8 rfl ?_
    refine e_callSi (n := 1) mX4_isRow [.int (nI r)] dX4_alone_9 ckX4_64 rfl (by decide +kernel) rfl rfl (Nat.le_of_ble_eq_true rfl) ⟨Nat.zero_le _, Nat.zero_le _⟩ (s_rowN (nI r) m) (fun v9 m2 hm2 => ?_)
    rcases hm2 with ⟨rfl, ⟨rfl, q1⟩ | ⟨rfl, q1⟩⟩
    · refine e_if_eq 28 dX4_alone_12 (by decide) (fun h => absurd h (by decide)) (fun c12 => ?_)
      refine e_iload dX4_alone_15 rfl ?_
      refine e_i2l dX4_alone_17 ?_
      refine e_lconst (v := 0) dX4_alone_18 rfl ?_
      refine e_ldc2 dX4_alone_19 kkX4_180 ?_
      refine e_callSi (n := 3) mX4_in [.long (Int32.toInt64 (nI n)), .long 0, .long (16)] dX4_alone_22 ckX4_60 rfl (by decide +kernel) rfl rfl (Nat.le_of_ble_eq_true rfl) ⟨Nat.zero_le _, Nat.zero_le _⟩ (s_inN (nI n) (16) 17 (by decide) (by decide) m) (fun v22 m3 hm3 => ?_)
      rcases hm3 with ⟨rfl, ⟨rfl, q2⟩ | ⟨rfl, q2⟩⟩
      · refine e_if_ne 31 dX4_alone_25 (by decide) (fun c25 => ?_) (fun h => absurd h (by decide))
        refine e_aload_n dX4_alone_31 rfl ?_
        refine e_iload_n dX4_alone_32 rfl ?_
        refine e_iload_n dX4_alone_33 rfl ?_
        refine e_iload dX4_alone_34 rfl ?_
        refine e_callVi (n := 3) mX4_lacks [.int (nI r), .int (nI i), .int (nI n)] dX4_alone_36 ckX4_182 rfl (by decide +kernel) rfl rfl rfl rfl (Nat.le_of_ble_eq_true rfl) ⟨Nat.zero_le _, Nat.zero_le _⟩ (s_lacksT m r hr n hn i k hk hsz hik hgd) (fun v36 m4 hm4 => ?_)
        obtain ⟨rfl, rfl⟩ := hm4
        refine e_istore (L' := [some (.ref 98), some (.int (nI s)), some (.int (nI r)), some (.int (nI i)), some (.int (nI n)), some (.int 0), none]) dX4_alone_39 (Nat.le_of_ble_eq_true rfl) (Nat.le_of_ble_eq_true rfl) (jnl_at (i := 4) rfl) rfl ?_
        refine e_iload dX4_alone_41 rfl ?_
        refine e_if_ge 49 dX4_alone_43 (by decide) (fun c43 => ?_) (fun h => absurd h (by decide))
        refine e_aload_n dX4_alone_49 rfl ?_
        refine e_callVv (n := 0) mX4_putAside [] dX4_alone_50 ckX4_186 rfl (by decide +kernel) rfl rfl rfl rfl (Nat.le_of_ble_eq_true rfl) ⟨Nat.zero_le _, Nat.zero_le _⟩ (s_putAside m) (fun mp hmp => ?_)
        refine e_aload_n dX4_alone_53 rfl ?_
        refine e_iload_n dX4_alone_54 rfl ?_
        refine e_bipush (v := 40) dX4_alone_55 rfl ?_
        refine e_iload_n dX4_alone_57 rfl ?_
        refine e_imul dX4_alone_58 ?_
        refine e_iload_n dX4_alone_59 rfl ?_
        refine e_iadd dX4_alone_60 ?_
        rw [show (40 * (nI r)) + (nI i) = nI ((40 * r) + i) from (j_add (j_mul rfl rfl) rfl)]
        refine e_iload dX4_alone_61 rfl ?_
        refine e_iconst (v := 0) dX4_alone_63 rfl ?_
        refine e_callVv (n := 4) mX4_singAlone [.int (nI s), .int (nI ((40 * r) + i)), .int (nI n), .int 0] dX4_alone_64 ckX4_189 rfl (by decide +kernel) rfl rfl rfl rfl (Nat.le_of_ble_eq_true rfl) ⟨Nat.zero_le _, Nat.zero_le _⟩ (s_singAlone mp V hV (by rw [← hmp, jup_n _ _ (by decide)]; exact h1) P hP (by rw [← hmp, jup_n _ _ (by decide)]; exact h2) s (by omega) (40 * r + i) n (by omega) 0) (fun ms hms => ?_)
        obtain ⟨f, hms⟩ := hms
        have e102 : ms 102 = aloneB (m 102) s (fun j => m 101 (40 * r + i + j)) 0 V P n := by rw [hms, jup_s, ← hmp, jup_n _ _ (by decide), jup_n _ _ (by decide)]
        refine e_aload_n dX4_alone_67 rfl ?_
        refine e_callVi (n := 0) mX4_setPans [] dX4_alone_68 ckX4_167 rfl (by decide +kernel) rfl rfl rfl rfl (Nat.le_of_ble_eq_true rfl) ⟨Nat.zero_le _, Nat.zero_le _⟩ (s_setPans ms P hP (by rw [e102]; exact (aloneB_lo hV (by omega) (by decide) _).trans h2)) (fun v68 m7 hm7 => ?_)
        obtain ⟨rfl, rfl⟩ := hm7
        refine e_istore (L' := [some (.ref 98), some (.int (nI s)), some (.int (nI r)), some (.int (nI i)), some (.int (nI n)), some (.int 0), some (.int (setB (ms 102) P))]) dX4_alone_71 (Nat.le_of_ble_eq_true rfl) (Nat.le_of_ble_eq_true rfl) (jnl_at (i := 5) rfl) rfl ?_
        refine e_aload_n dX4_alone_73 rfl ?_
        refine e_callVv (n := 0) mX4_takeBack [] dX4_alone_74 ckX4_193 rfl (by decide +kernel) rfl rfl rfl rfl (Nat.le_of_ble_eq_true rfl) ⟨Nat.zero_le _, Nat.zero_le _⟩ (s_takeBack ms) (fun mt hmt => ?_)
        refine e_aload_n dX4_alone_77 rfl ?_
        refine e_iload dX4_alone_78 rfl ?_
        refine e_callVi (n := 1) mX4_well [.int (setB (ms 102) P)] dX4_alone_80 ckX4_75 rfl (by decide +kernel) rfl rfl rfl rfl (Nat.le_of_ble_eq_true rfl) ⟨Nat.zero_le _, Nat.zero_le _⟩ (s_well (setB (ms 102) P) mt) (fun v80 mw hmw => ?_)
        obtain ⟨rfl, hw⟩ := hmw
        exact e_iret dX4_alone_83 rfl (⟨by rw [e102], f, by rw [← hw, ← hmt, hms, ← hmp]; simp only [jup_n _ _ (show (101 : Nat) ≠ 108 by decide), jup_n _ _ (show (102 : Nat) ≠ 108 by decide)]; rfl⟩)
      · exact False.elim (q2 (inN_nI (by decide) (by omega)))
    · exact False.elim (q1 (inN_nI (by decide) hr))
  · exact False.elim (q (inN_nI (by omega) hs))
