/-! songs -/
def sgS (st : Nat → Int32) (s : Nat) (rw : Nat → Int32) (V P : Nat) : Nat → Nat → Int32
  | 0 => st
  | k + 1 => oneB (sgS st s rw V P k) (ntS s (rw k)) V P
def sgC (st : Nat → Int32) (s : Nat) (rw : Nat → Int32) (V P : Nat) : Nat → Bool
  | 0 => true
  | k + 1 => sgC st s rw V P k && canB (sgS st s rw V P k) s (rw k)
def sgN (rw : Nat → Int32) : Nat → Nat
  | 0 => 0
  | k + 1 => sgN rw k + (if rw k < 7 then 1 else 0)
theorem sgS_lo {st : Nat → Int32} {s : Nat} {rw : Nat → Int32} {V P i : Nat} (hV : V ≤ 3) (h : i < 13 ∨ (16 ≤ i ∧ i < 36)) (h3 : i ≠ 3) : ∀ k, sgS st s rw V P k i = st i
  | 0 => rfl
  | k + 1 => (oneB_lo hV h h3).trans (sgS_lo hV h h3 k)
theorem sgS_hi {st : Nat → Int32} {s : Nat} {rw : Nat → Int32} {V P i : Nat} (hV : V ≤ 3) (hP : P ≤ 5) (h : 51 ≤ i) : ∀ k, sgS st s rw V P k i = st i
  | 0 => rfl
  | k + 1 => (oneB_hi hV hP h).trans (sgS_hi hV hP h k)
theorem sgS_01 {st : Nat → Int32} {s : Nat} {rw : Nat → Int32} {V P : Nat} (hV : V ≤ 3) (hP : P ≤ 5) (h : d01 st P) : ∀ k, d01 (sgS st s rw V P k) P
  | 0 => h
  | k + 1 => oneB_01 hV hP (sgS_01 hV hP h k)
theorem sgS_congr {st f g : Nat → Int32} {s V P : Nat} : ∀ k, (∀ j, j < k → f j = g j) → sgS st s f V P k = sgS st s g V P k
  | 0, _ => rfl
  | k + 1, h => by
    show oneB _ _ _ _ = oneB _ _ _ _
    rw [sgS_congr k (fun j hj => h j (by omega)), h k (by omega)]
theorem sgC_congr {st f g : Nat → Int32} {s V P : Nat} : ∀ k, (∀ j, j < k → f j = g j) → sgC st s f V P k = sgC st s g V P k
  | 0, _ => rfl
  | k + 1, h => by
    show (_ && _) = (_ && _)
    rw [sgC_congr k (fun j hj => h j (by omega)), sgS_congr k (fun j hj => h j (by omega)), h k (by omega)]
theorem sgN_congr {f g : Nat → Int32} : ∀ k, (∀ j, j < k → f j = g j) → sgN f k = sgN g k
  | 0, _ => rfl
  | k + 1, h => by
    show _ + _ = _ + _
    rw [sgN_congr k (fun j hj => h j (by omega)), h k (by omega)]
theorem sgC_mono {st : Nat → Int32} {s : Nat} {rw : Nat → Int32} {V P : Nat} {k : Nat} (h : sgC st s rw V P k = false) : ∀ n, k ≤ n → sgC st s rw V P n = false := by
  intro n hn
  induction n with
  | zero => obtain rfl : k = 0 := by omega
            exact h
  | succ n ih =>
    by_cases e : k = n + 1
    · rw [← e]; exact h
    · show (_ && _) = false
      rw [ih (by omega)]
      rfl
theorem sgN_le (rw : Nat → Int32) : ∀ k, sgN rw k ≤ k
  | 0 => Nat.le_refl _
  | k + 1 => by
    have := sgN_le rw k
    unfold sgN
    split <;> omega
def dgS (n r p : Nat) : Nat := r / 8 ^ (n - 1 - p) % 8
def rwS (n r : Nat) : Nat → Int32 := fun p => nI (dgS n r p)
def soV (st : Nat → Int32) (s n V P r : Nat) : Int32 := nI (popc (setN (sgS st s (rwS n r) V P n) P))
def soB (st : Nat → Int32) (s n V P : Nat) : Nat → Int32 × Nat × Nat
  | 0 => (-1, 0, 0)
  | r + 1 => if sgC st s (rwS n r) V P n = true ∧ ((soB st s n V P r).1 < soV st s n V P r ∨ (soV st s n V P r = (soB st s n V P r).1 ∧ sgN (rwS n r) n < (soB st s n V P r).2.1)) then (soV st s n V P r, sgN (rwS n r) n, r) else soB st s n V P r
theorem soB_lt {st : Nat → Int32} {s n V P : Nat} : ∀ r, (soB st s n V P r).2.1 ≤ n ∧ (soB st s n V P r).2.2 ≤ r - 1
  | 0 => ⟨Nat.zero_le _, Nat.le_refl _⟩
  | r + 1 => by
    rcases (j_ite _ _ _ : soB st s n V P (r + 1) = (soV st s n V P r, sgN (rwS n r) n, r) ∨ soB st s n V P (r + 1) = soB st s n V P r) with e | e
    · have e' : soB st s n V P (r + 1) = (soV st s n V P r, sgN (rwS n r) n, r) := e
      rw [e']; exact ⟨sgN_le _ _, Nat.le_refl r⟩
    · have e' : soB st s n V P (r + 1) = soB st s n V P r := e
      rw [e']
      have := soB_lt (st := st) (s := s) (n := n) (V := V) (P := P) r
      exact ⟨this.1, Nat.le_trans this.2 (by omega)⟩
def smM (m : jM) (f : Nat → Int32) (x : Int32) (g : Nat → Int32) : jM := jup (jst (jup (asdM m) 106 f) 98 21 x) 109 g
theorem smM_0 (m : jM) : smM m (asdM m 106) (asdM m 98 21) (asdM m 109) = asdM m := by
  unfold smM
  rw [jup_id]
  have e : jst (asdM m) 98 21 (asdM m 98 21) = asdM m := by
    show jup (asdM m) 98 (upd (asdM m 98) 21 (asdM m 98 21)) = asdM m
    have : upd (asdM m 98) 21 (asdM m 98 21) = asdM m 98 := by
      funext j
      unfold upd
      by_cases h : j = 21
      · rw [if_pos h, h]
      · rw [if_neg h]
    rw [this, jup_id]
  rw [e, jup_id]
theorem smM_102 (m : jM) (f : Nat → Int32) (x : Int32) (g : Nat → Int32) : smM m f x g 102 = m 102 := by
  unfold smM asdM
  rw [jup_n _ _ (by decide), jst_n _ _ _ (by decide), jup_n _ _ (by decide), jup_n _ _ (by decide)]
theorem smM_step (m : jM) (f f2 : Nat → Int32) (x x2 : Int32) (g g2 X : Nat → Int32) (hX : ∀ j, 51 ≤ j → X j = m 102 j) : bakM (jst (jup (jup (jup (smM m f x g) 109 g2) 106 f2) 102 X) 98 21 x2) = smM m f2 x2 g2 := by
  have h := bak_ex m f2 X hX
  have e108 : jst (jup (jup (jup (smM m f x g) 109 g2) 106 f2) 102 X) 98 21 x2 108 = jup (jup (asdM m) 106 f2) 102 X 108 := by
    unfold smM
    simp only [jst_n _ _ _ (show (108 : Nat) ≠ 98 by decide), jup_n _ _ (show (108 : Nat) ≠ 102 by decide), jup_n _ _ (show (108 : Nat) ≠ 106 by decide), jup_n _ _ (show (108 : Nat) ≠ 109 by decide)]
  have e102 : jst (jup (jup (jup (smM m f x g) 109 g2) 106 f2) 102 X) 98 21 x2 102 = X := by rw [jst_n _ _ _ (by decide), jup_s]
  unfold bakM at h ⊢
  rw [e108, e102]
  rw [jup_s] at h
  have h102 := congrFun h 102
  rw [jup_s] at h102
  rw [h102]
  unfold smM
  funext a
  simp only [jst, jup]
  by_cases h1 : a = 102
  · subst h1; simp
  by_cases h2 : a = 98
  · subst h2; simp [upd_upd]
  by_cases h3 : a = 106
  · subst h3; simp
  by_cases h4 : a = 109
  · subst h4; simp
  simp [h1, h2, h3, h4]
theorem dg_ok : ∀ n, n < 5 → ∀ p, p < n → ∀ r, r < 8 ^ n → (nI r >>> (nI (3 * (n - 1 - p)) &&& 31)) &&& 7 = nI (dgS n r p) := by
  intro n hn p hp
  have : (n = 1 ∧ p = 0) ∨ (n = 2 ∧ p < 2) ∨ (n = 3 ∧ p < 3) ∨ (n = 4 ∧ p < 4) := by omega
  have key : ∀ n p, (List.range (8 ^ n)).all (fun r => decide ((nI r >>> (nI (3 * (n - 1 - p)) &&& 31)) &&& 7 = nI (dgS n r p))) = true → ∀ r, r < 8 ^ n → (nI r >>> (nI (3 * (n - 1 - p)) &&& 31)) &&& 7 = nI (dgS n r p) := fun n p h r hr => co_dec (P := fun r => (nI r >>> (nI (3 * (n - 1 - p)) &&& 31)) &&& 7 = nI (dgS n r p)) h hr
  rcases this with ⟨rfl, rfl⟩ | ⟨rfl, h⟩ | ⟨rfl, h⟩ | ⟨rfl, h⟩
  · exact key 1 0 (by decide +kernel)
  · have : p = 0 ∨ p = 1 := by omega
    rcases this with rfl | rfl <;> exact key 2 _ (by decide +kernel)
  · have : p = 0 ∨ p = 1 ∨ p = 2 := by omega
    rcases this with rfl | rfl | rfl <;> exact key 3 _ (by decide +kernel)
  · have : p = 0 ∨ p = 1 ∨ p = 2 ∨ p = 3 := by omega
    rcases this with rfl | rfl | rfl | rfl <;> exact key 4 _ (by decide +kernel)
theorem eight_le {n : Nat} (hn : n ≤ 4) : 8 ^ n ≤ 4096 := Nat.pow_le_pow_right (n := 8) (by decide) hn
theorem shl3 : ∀ n, n < 5 → (1 : Int32) <<< (nI (3 * n) &&& 31) = nI (8 ^ n) := fun n hn => co_dec (P := fun n => (1 : Int32) <<< (nI (3 * n) &&& 31) = nI (8 ^ n)) (by decide +kernel) hn
theorem b01_t {b : Bool} (h : ¬ b01 b = 0) : b = true := by cases b; exact absurd rfl h; rfl
theorem b01_f {b : Bool} (h : b01 b = 0) : b = false := by cases b; rfl; exact absurd h (by decide)
theorem b01_01 (b : Bool) : b01 b = 0 ∨ b01 b = 1 := by cases b; exact Or.inl rfl; exact Or.inr rfl
set_option maxHeartbeats 2000000 in
set_option maxRecDepth 20000 in
theorem s_singsRow (m : jM) (V : Nat) (hV : V ≤ 3) (h1 : m 102 1 = nI V) (P : Nat) (hP : P ≤ 5) (h2 : m 102 2 = nI P) (s : Nat) (hs : s < V) (n : Nat) (hn : n ≤ 4) : iX mX4_singsRow [.ref 98, .int (nI s), .int (nI n)] m (fun v m1 => v = b01 (sgC (m 102) s (m 109) V P n) ∧ ∃ f k, k ≤ n ∧ (sgC (m 102) s (m 109) V P n = true → k = n) ∧ jst (jup (jup m 106 f) 102 (sgS (m 102) s (m 109) V P k)) 98 21 (nI (sgN (m 109) k)) = m1) := by
  refine jX_of (L := [some (.ref 98), some (.int (nI s)), some (.int (nI n)), none, none]) 2 rfl rfl (by decide +kernel) rfl ?_
  refine e_aload_n dX4_singsRow_0 rfl ?_
  refine e_iconst (v := 0) dX4_singsRow_1 rfl ?_
  refine e_putI dX4_singsRow_2 lkX4_205 rfl rfl fwX4_21 (Or.inl rfl) (fun mi hmi => ?_)
  refine e_iconst (v := 1) dX4_singsRow_5 rfl ?_
  refine e_istore_n (L' := [some (.ref 98), some (.int (nI s)), some (.int (nI n)), some (.int 1), none]) dX4_singsRow_6 (Nat.le_of_ble_eq_true rfl) (Nat.le_of_ble_eq_true rfl) (jnl_at (i := 2) rfl) rfl ?_
  refine e_iconst (v := 0) dX4_singsRow_7 rfl ?_
  refine e_istore (L' := [some (.ref 98), some (.int (nI s)), some (.int (nI n)), some (.int 1), some (.int 0)]) dX4_singsRow_8 (Nat.le_of_ble_eq_true rfl) (Nat.le_of_ble_eq_true rfl) (jnl_at (i := 3) rfl) rfl ?_
  refine e_loopS (σ := Nat → Int32) 10 n (fun k f => [some (.ref 98), some (.int (nI s)), some (.int (nI n)), some (.int (b01 (sgC (m 102) s (m 109) V P k))), some (.int (nI k))]) (fun k f mm => mm = jst (jup (jup m 106 f) 102 (sgS (m 102) s (m 109) V P k)) 98 21 (nI (sgN (m 109) k))) 0 (m 106) (Nat.zero_le _) rfl (by rw [hmi, jup_id]; show _ = jst (jup m 102 (m 102)) 98 21 0; rw [jup_id]) ?_ ?_
  · intro f mm hI
    show jE _ _ 10 [some (.ref 98), some (.int (nI s)), some (.int (nI n)), some (.int (b01 (sgC (m 102) s (m 109) V P n))), some (.int (nI n))] [] mm
    refine e_iload dX4_singsRow_10 rfl ?_
    refine e_iload_n dX4_singsRow_12 rfl ?_
    refine e_icmp_ge 86 dX4_singsRow_13 (by decide) (fun c13 => ?_) (fun h => absurd (j_done rfl rfl) h)
    refine e_iload_n dX4_singsRow_86 rfl ?_
    exact e_zret dX4_singsRow_87 rfl (b01_01 _) (⟨rfl, f, n, Nat.le_refl _, fun _ => rfl, hI.symm⟩)
  · intro k hk f mm hI ih
    show jE _ _ 10 [some (.ref 98), some (.int (nI s)), some (.int (nI n)), some (.int (b01 (sgC (m 102) s (m 109) V P k))), some (.int (nI k))] [] mm
    have g102 : mm 102 = sgS (m 102) s (m 109) V P k := by rw [hI, jst_n _ _ _ (by decide), jup_s]
    have g109 : mm 109 = m 109 := by rw [hI, jst_n _ _ _ (by decide), jup_n _ _ (by decide), jup_n _ _ (by decide)]
    have g21 : mm 98 21 = nI (sgN (m 109) k) := by rw [hI, jst_s, upd_s]
    have g106 : mm 106 = f := by rw [hI, jst_n _ _ _ (by decide), jup_n _ _ (by decide), jup_s]
    refine e_iload dX4_singsRow_10 rfl ?_
    refine e_iload_n dX4_singsRow_12 rfl ?_
    refine e_icmp_ge 86 dX4_singsRow_13 (by decide) (fun h => absurd h (j_more (N := n) rfl rfl (by omega) (by omega))) (fun c13 => ?_)
    refine e_iload_n dX4_singsRow_16 rfl ?_
    refine e_if_eq 86 dX4_singsRow_17 (by decide) (fun c17 => ?_) (fun c17 => ?_)
    · have hck : sgC (m 102) s (m 109) V P k = false := b01_f c17
      refine e_iload_n dX4_singsRow_86 rfl ?_
      exact e_zret dX4_singsRow_87 rfl (b01_01 _) (⟨by rw [sgC_mono hck n (by omega), hck], f, k, by omega, fun q => absurd q (by rw [sgC_mono hck n (by omega)]; decide), hI.symm⟩)
    · have hck : sgC (m 102) s (m 109) V P k = true := b01_t c17
      refine e_aload_n dX4_singsRow_20 rfl ?_
      refine e_iload_n dX4_singsRow_21 rfl ?_
      refine e_aload_n dX4_singsRow_22 rfl ?_
      refine e_getR (o := 11) (b := 109) dX4_singsRow_23 lkX4_40 rfl rfl (by decide) rfl ?_
      refine e_iload dX4_singsRow_26 rfl ?_
      refine e_iald dX4_singsRow_28 rfl k rfl (by omega) (by decide) ?_
      rw [show mm 109 k = m 109 k from by rw [g109]]
      refine e_callVi (n := 2) mX4_canSing [.int (nI s), .int (m 109 k)] dX4_singsRow_29 ckX4_158 rfl (by decide +kernel) rfl rfl rfl rfl (Nat.le_of_ble_eq_true rfl) ⟨Nat.zero_le _, Nat.zero_le _⟩ (s_canB s (by omega) (m 109 k) mm) (fun v29 m2 hm2 => ?_)
      rcases hm2 with ⟨rfl, ⟨rfl, q2⟩ | ⟨rfl, q2⟩⟩
      · refine e_istore_n (L' := [some (.ref 98), some (.int (nI s)), some (.int (nI n)), some (.int 1), some (.int (nI k))]) dX4_singsRow_32 (Nat.le_of_ble_eq_true rfl) (Nat.le_of_ble_eq_true rfl) (jnl_at (i := 2) rfl) rfl ?_
        rw [g102] at q2
        refine e_aload_n dX4_singsRow_33 rfl ?_
        refine e_callVv (n := 0) mX4_allRest [] dX4_singsRow_34 ckX4_177 rfl (by decide +kernel) rfl rfl rfl rfl (Nat.le_of_ble_eq_true rfl) ⟨Nat.zero_le _, Nat.zero_le _⟩ (s_allRest mm) (fun mr hmr => ?_)
        refine e_aload_n dX4_singsRow_37 rfl ?_
        refine e_getR (o := 8) (b := 106) dX4_singsRow_38 lkX4_31 rfl rfl (by decide) rfl ?_
        refine e_iload_n dX4_singsRow_41 rfl ?_
        refine e_aload_n dX4_singsRow_42 rfl ?_
        refine e_getR (o := 11) (b := 109) dX4_singsRow_43 lkX4_40 rfl rfl (by decide) rfl ?_
        refine e_iload dX4_singsRow_46 rfl ?_
        refine e_iald dX4_singsRow_48 rfl k rfl (by omega) (by decide) ?_
        rw [show mr 109 k = m 109 k from by rw [← hmr, jup_n _ _ (by decide), g109]]
        refine e_iast dX4_singsRow_49 rfl s rfl (by omega) (by decide) (fun ma hma => ?_)
        refine e_aload_n dX4_singsRow_50 rfl ?_
        refine e_dup dX4_singsRow_51 rfl ?_
        refine e_getI dX4_singsRow_52 lkX4_205 rfl rfl ?_
        rw [show ma 98 21 = nI (sgN (m 109) k) from by rw [hma, jup_n _ _ (by decide), ← hmr, jup_n _ _ (by decide), g21]]
        refine e_aload_n dX4_singsRow_55 rfl ?_
        refine e_getR (o := 11) (b := 109) dX4_singsRow_56 lkX4_40 rfl rfl (by decide) rfl ?_
        refine e_iload dX4_singsRow_59 rfl ?_
        refine e_iald dX4_singsRow_61 rfl k rfl (by omega) (by decide) ?_
        rw [show ma 109 k = m 109 k from by rw [hma, jup_n _ _ (by decide), ← hmr, jup_n _ _ (by decide), g109]]
        refine e_bipush (v := 7) dX4_singsRow_62 rfl ?_
        refine e_icmp_ge 71 dX4_singsRow_64 (by decide) (fun c64 => ?_) (fun c64 => ?_)
        · refine e_iconst (v := 0) dX4_singsRow_71 rfl ?_
          obtain ⟨zz, hzz⟩ : ∃ z : Nat, z = if m 109 k < 7 then 1 else 0 := ⟨_, rfl⟩
          have ezz : zz = 0 := by rw [hzz]; first | rw [if_pos (Int32.not_le.mp c64)] | rw [if_neg (Int32.not_lt.mpr c64)]
          refine e_iadd dX4_singsRow_72 ?_
          rw [show (nI (sgN (m 109) k)) + 0 = nI (sgN (m 109) k + zz) from by rw [ezz]; first | exact nI_1 _ | (show nI _ + nI 0 = _; exact nI_add _ _)]
          refine e_putI dX4_singsRow_73 lkX4_205 rfl rfl fwX4_21 (Or.inl rfl) (fun mb hmb => ?_)
          refine e_aload_n dX4_singsRow_76 rfl ?_
          refine e_callVv (n := 0) mX4_oneBar [] dX4_singsRow_77 ckX4_164 rfl (by decide +kernel) rfl rfl rfl rfl (Nat.le_of_ble_eq_true rfl) ⟨Nat.zero_le _, Nat.zero_le _⟩ (s_oneBar mb V hV (by rw [hmb, jup_n _ _ (by decide), hma, jup_n _ _ (by decide), ← hmr, jup_n _ _ (by decide), g102]; exact (sgS_lo hV (by omega) (by decide) _).trans h1) P hP (by rw [hmb, jup_n _ _ (by decide), hma, jup_n _ _ (by decide), ← hmr, jup_n _ _ (by decide), g102]; exact (sgS_lo hV (by omega) (by decide) _).trans h2)) (fun mo hmo => ?_)
          refine e_iinc (v := nI (k + 1)) (L' := [some (.ref 98), some (.int (nI s)), some (.int (nI n)), some (.int 1), some (.int (nI (k + 1)))]) dX4_singsRow_80 rfl (j_inc rfl) (by decide) (jnl_at (i := 3) rfl) rfl ?_
          refine e_goto 10 dX4_singsRow_83 (by decide) ?_
          have eC : sgC (m 102) s (m 109) V P (k + 1) = true := by
            show (_ && _) = _
            rw [hck]
            exact q2
          have eN : sgN (m 109) (k + 1) = sgN (m 109) k + zz := by rw [hzz]; rfl
          refine e_start (by simp only [eC]; rfl) rfl (ih (ma 106) mo ?_)
          rw [← hmo]
          have h1a : mb 102 = sgS (m 102) s (m 109) V P k := by rw [hmb, jup_n _ _ (by decide), hma, jup_n _ _ (by decide), ← hmr, jup_n _ _ (by decide), g102]
          have h6a : mb 106 = ma 106 := by rw [hmb, jup_n _ _ (by decide)]
          have h6b : ma 106 = upd (va_cpy (fun _ => 7) f 0 0 3) s (m 109 k) := by rw [hma, jup_s, ← hmr, jup_s, g106]
          rw [h1a, h6a]
          have eS : oneB (sgS (m 102) s (m 109) V P k) (ma 106) V P = sgS (m 102) s (m 109) V P (k + 1) := by
            refine oneB_congr (fun j hj => ?_)
            rw [h6b]
            unfold ntS upd
            by_cases a1 : j = s
            · rw [if_pos a1, if_pos a1]
            · rw [if_neg a1, if_neg a1, rest3_hi f (by omega)]
          rw [eS, hmb, hma, ← hmr, hI, eN]
          funext a
          simp only [jst, jup]
          by_cases h1 : a = 102
          · subst h1; simp
          by_cases h2 : a = 98
          · subst h2; simp [upd_upd]
          by_cases h3 : a = 106
          · subst h3; simp
          simp [h1, h2, h3]
        · refine e_iconst (v := 1) dX4_singsRow_67 rfl ?_
          refine e_goto 72 dX4_singsRow_68 (by decide) ?_
          obtain ⟨zz, hzz⟩ : ∃ z : Nat, z = if m 109 k < 7 then 1 else 0 := ⟨_, rfl⟩
          have ezz : zz = 1 := by rw [hzz]; first | rw [if_pos (Int32.not_le.mp c64)] | rw [if_neg (Int32.not_lt.mpr c64)]
          refine e_iadd dX4_singsRow_72 ?_
          rw [show (nI (sgN (m 109) k)) + 1 = nI (sgN (m 109) k + zz) from by rw [ezz]; first | exact nI_1 _ | (show nI _ + nI 0 = _; exact nI_add _ _)]
          refine e_putI dX4_singsRow_73 lkX4_205 rfl rfl fwX4_21 (Or.inl rfl) (fun mb hmb => ?_)
          refine e_aload_n dX4_singsRow_76 rfl ?_
          refine e_callVv (n := 0) mX4_oneBar [] dX4_singsRow_77 ckX4_164 rfl (by decide +kernel) rfl rfl rfl rfl (Nat.le_of_ble_eq_true rfl) ⟨Nat.zero_le _, Nat.zero_le _⟩ (s_oneBar mb V hV (by rw [hmb, jup_n _ _ (by decide), hma, jup_n _ _ (by decide), ← hmr, jup_n _ _ (by decide), g102]; exact (sgS_lo hV (by omega) (by decide) _).trans h1) P hP (by rw [hmb, jup_n _ _ (by decide), hma, jup_n _ _ (by decide), ← hmr, jup_n _ _ (by decide), g102]; exact (sgS_lo hV (by omega) (by decide) _).trans h2)) (fun mo hmo => ?_)
          refine e_iinc (v := nI (k + 1)) (L' := [some (.ref 98), some (.int (nI s)), some (.int (nI n)), some (.int 1), some (.int (nI (k + 1)))]) dX4_singsRow_80 rfl (j_inc rfl) (by decide) (jnl_at (i := 3) rfl) rfl ?_
          refine e_goto 10 dX4_singsRow_83 (by decide) ?_
          have eC : sgC (m 102) s (m 109) V P (k + 1) = true := by
            show (_ && _) = _
            rw [hck]
            exact q2
          have eN : sgN (m 109) (k + 1) = sgN (m 109) k + zz := by rw [hzz]; rfl
          refine e_start (by simp only [eC]; rfl) rfl (ih (ma 106) mo ?_)
          rw [← hmo]
          have h1a : mb 102 = sgS (m 102) s (m 109) V P k := by rw [hmb, jup_n _ _ (by decide), hma, jup_n _ _ (by decide), ← hmr, jup_n _ _ (by decide), g102]
          have h6a : mb 106 = ma 106 := by rw [hmb, jup_n _ _ (by decide)]
          have h6b : ma 106 = upd (va_cpy (fun _ => 7) f 0 0 3) s (m 109 k) := by rw [hma, jup_s, ← hmr, jup_s, g106]
          rw [h1a, h6a]
          have eS : oneB (sgS (m 102) s (m 109) V P k) (ma 106) V P = sgS (m 102) s (m 109) V P (k + 1) := by
            refine oneB_congr (fun j hj => ?_)
            rw [h6b]
            unfold ntS upd
            by_cases a1 : j = s
            · rw [if_pos a1, if_pos a1]
            · rw [if_neg a1, if_neg a1, rest3_hi f (by omega)]
          rw [eS, hmb, hma, ← hmr, hI, eN]
          funext a
          simp only [jst, jup]
          by_cases h1 : a = 102
          · subst h1; simp
          by_cases h2 : a = 98
          · subst h2; simp [upd_upd]
          by_cases h3 : a = 106
          · subst h3; simp
          simp [h1, h2, h3]
      · refine e_istore_n (L' := [some (.ref 98), some (.int (nI s)), some (.int (nI n)), some (.int 0), some (.int (nI k))]) dX4_singsRow_32 (Nat.le_of_ble_eq_true rfl) (Nat.le_of_ble_eq_true rfl) (jnl_at (i := 2) rfl) rfl ?_
        rw [g102] at q2
        refine e_aload_n dX4_singsRow_33 rfl ?_
        refine e_callVv (n := 0) mX4_allRest [] dX4_singsRow_34 ckX4_177 rfl (by decide +kernel) rfl rfl rfl rfl (Nat.le_of_ble_eq_true rfl) ⟨Nat.zero_le _, Nat.zero_le _⟩ (s_allRest mm) (fun mr hmr => ?_)
        refine e_aload_n dX4_singsRow_37 rfl ?_
        refine e_getR (o := 8) (b := 106) dX4_singsRow_38 lkX4_31 rfl rfl (by decide) rfl ?_
        refine e_iload_n dX4_singsRow_41 rfl ?_
        refine e_aload_n dX4_singsRow_42 rfl ?_
        refine e_getR (o := 11) (b := 109) dX4_singsRow_43 lkX4_40 rfl rfl (by decide) rfl ?_
        refine e_iload dX4_singsRow_46 rfl ?_
        refine e_iald dX4_singsRow_48 rfl k rfl (by omega) (by decide) ?_
        rw [show mr 109 k = m 109 k from by rw [← hmr, jup_n _ _ (by decide), g109]]
        refine e_iast dX4_singsRow_49 rfl s rfl (by omega) (by decide) (fun ma hma => ?_)
        refine e_aload_n dX4_singsRow_50 rfl ?_
        refine e_dup dX4_singsRow_51 rfl ?_
        refine e_getI dX4_singsRow_52 lkX4_205 rfl rfl ?_
        rw [show ma 98 21 = nI (sgN (m 109) k) from by rw [hma, jup_n _ _ (by decide), ← hmr, jup_n _ _ (by decide), g21]]
        refine e_aload_n dX4_singsRow_55 rfl ?_
        refine e_getR (o := 11) (b := 109) dX4_singsRow_56 lkX4_40 rfl rfl (by decide) rfl ?_
        refine e_iload dX4_singsRow_59 rfl ?_
        refine e_iald dX4_singsRow_61 rfl k rfl (by omega) (by decide) ?_
        rw [show ma 109 k = m 109 k from by rw [hma, jup_n _ _ (by decide), ← hmr, jup_n _ _ (by decide), g109]]
        refine e_bipush (v := 7) dX4_singsRow_62 rfl ?_
        refine e_icmp_ge 71 dX4_singsRow_64 (by decide) (fun c64 => ?_) (fun c64 => ?_)
        · refine e_iconst (v := 0) dX4_singsRow_71 rfl ?_
          obtain ⟨zz, hzz⟩ : ∃ z : Nat, z = if m 109 k < 7 then 1 else 0 := ⟨_, rfl⟩
          have ezz : zz = 0 := by rw [hzz]; first | rw [if_pos (Int32.not_le.mp c64)] | rw [if_neg (Int32.not_lt.mpr c64)]
          refine e_iadd dX4_singsRow_72 ?_
          rw [show (nI (sgN (m 109) k)) + 0 = nI (sgN (m 109) k + zz) from by rw [ezz]; first | exact nI_1 _ | (show nI _ + nI 0 = _; exact nI_add _ _)]
          refine e_putI dX4_singsRow_73 lkX4_205 rfl rfl fwX4_21 (Or.inl rfl) (fun mb hmb => ?_)
          refine e_aload_n dX4_singsRow_76 rfl ?_
          refine e_callVv (n := 0) mX4_oneBar [] dX4_singsRow_77 ckX4_164 rfl (by decide +kernel) rfl rfl rfl rfl (Nat.le_of_ble_eq_true rfl) ⟨Nat.zero_le _, Nat.zero_le _⟩ (s_oneBar mb V hV (by rw [hmb, jup_n _ _ (by decide), hma, jup_n _ _ (by decide), ← hmr, jup_n _ _ (by decide), g102]; exact (sgS_lo hV (by omega) (by decide) _).trans h1) P hP (by rw [hmb, jup_n _ _ (by decide), hma, jup_n _ _ (by decide), ← hmr, jup_n _ _ (by decide), g102]; exact (sgS_lo hV (by omega) (by decide) _).trans h2)) (fun mo hmo => ?_)
          refine e_iinc (v := nI (k + 1)) (L' := [some (.ref 98), some (.int (nI s)), some (.int (nI n)), some (.int 0), some (.int (nI (k + 1)))]) dX4_singsRow_80 rfl (j_inc rfl) (by decide) (jnl_at (i := 3) rfl) rfl ?_
          refine e_goto 10 dX4_singsRow_83 (by decide) ?_
          have eC : sgC (m 102) s (m 109) V P (k + 1) = false := by
            show (_ && _) = _
            rw [hck]
            exact Bool.eq_false_iff.mpr q2
          have eN : sgN (m 109) (k + 1) = sgN (m 109) k + zz := by rw [hzz]; rfl
          refine e_start (by simp only [eC]; rfl) rfl (ih (ma 106) mo ?_)
          rw [← hmo]
          have h1a : mb 102 = sgS (m 102) s (m 109) V P k := by rw [hmb, jup_n _ _ (by decide), hma, jup_n _ _ (by decide), ← hmr, jup_n _ _ (by decide), g102]
          have h6a : mb 106 = ma 106 := by rw [hmb, jup_n _ _ (by decide)]
          have h6b : ma 106 = upd (va_cpy (fun _ => 7) f 0 0 3) s (m 109 k) := by rw [hma, jup_s, ← hmr, jup_s, g106]
          rw [h1a, h6a]
          have eS : oneB (sgS (m 102) s (m 109) V P k) (ma 106) V P = sgS (m 102) s (m 109) V P (k + 1) := by
            refine oneB_congr (fun j hj => ?_)
            rw [h6b]
            unfold ntS upd
            by_cases a1 : j = s
            · rw [if_pos a1, if_pos a1]
            · rw [if_neg a1, if_neg a1, rest3_hi f (by omega)]
          rw [eS, hmb, hma, ← hmr, hI, eN]
          funext a
          simp only [jst, jup]
          by_cases h1 : a = 102
          · subst h1; simp
          by_cases h2 : a = 98
          · subst h2; simp [upd_upd]
          by_cases h3 : a = 106
          · subst h3; simp
          simp [h1, h2, h3]
        · refine e_iconst (v := 1) dX4_singsRow_67 rfl ?_
          refine e_goto 72 dX4_singsRow_68 (by decide) ?_
          obtain ⟨zz, hzz⟩ : ∃ z : Nat, z = if m 109 k < 7 then 1 else 0 := ⟨_, rfl⟩
          have ezz : zz = 1 := by rw [hzz]; first | rw [if_pos (Int32.not_le.mp c64)] | rw [if_neg (Int32.not_lt.mpr c64)]
          refine e_iadd dX4_singsRow_72 ?_
          rw [show (nI (sgN (m 109) k)) + 1 = nI (sgN (m 109) k + zz) from by rw [ezz]; first | exact nI_1 _ | (show nI _ + nI 0 = _; exact nI_add _ _)]
          refine e_putI dX4_singsRow_73 lkX4_205 rfl rfl fwX4_21 (Or.inl rfl) (fun mb hmb => ?_)
          refine e_aload_n dX4_singsRow_76 rfl ?_
          refine e_callVv (n := 0) mX4_oneBar [] dX4_singsRow_77 ckX4_164 rfl (by decide +kernel) rfl rfl rfl rfl (Nat.le_of_ble_eq_true rfl) ⟨Nat.zero_le _, Nat.zero_le _⟩ (s_oneBar mb V hV (by rw [hmb, jup_n _ _ (by decide), hma, jup_n _ _ (by decide), ← hmr, jup_n _ _ (by decide), g102]; exact (sgS_lo hV (by omega) (by decide) _).trans h1) P hP (by rw [hmb, jup_n _ _ (by decide), hma, jup_n _ _ (by decide), ← hmr, jup_n _ _ (by decide), g102]; exact (sgS_lo hV (by omega) (by decide) _).trans h2)) (fun mo hmo => ?_)
          refine e_iinc (v := nI (k + 1)) (L' := [some (.ref 98), some (.int (nI s)), some (.int (nI n)), some (.int 0), some (.int (nI (k + 1)))]) dX4_singsRow_80 rfl (j_inc rfl) (by decide) (jnl_at (i := 3) rfl) rfl ?_
          refine e_goto 10 dX4_singsRow_83 (by decide) ?_
          have eC : sgC (m 102) s (m 109) V P (k + 1) = false := by
            show (_ && _) = _
            rw [hck]
            exact Bool.eq_false_iff.mpr q2
          have eN : sgN (m 109) (k + 1) = sgN (m 109) k + zz := by rw [hzz]; rfl
          refine e_start (by simp only [eC]; rfl) rfl (ih (ma 106) mo ?_)
          rw [← hmo]
          have h1a : mb 102 = sgS (m 102) s (m 109) V P k := by rw [hmb, jup_n _ _ (by decide), hma, jup_n _ _ (by decide), ← hmr, jup_n _ _ (by decide), g102]
          have h6a : mb 106 = ma 106 := by rw [hmb, jup_n _ _ (by decide)]
          have h6b : ma 106 = upd (va_cpy (fun _ => 7) f 0 0 3) s (m 109 k) := by rw [hma, jup_s, ← hmr, jup_s, g106]
          rw [h1a, h6a]
          have eS : oneB (sgS (m 102) s (m 109) V P k) (ma 106) V P = sgS (m 102) s (m 109) V P (k + 1) := by
            refine oneB_congr (fun j hj => ?_)
            rw [h6b]
            unfold ntS upd
            by_cases a1 : j = s
            · rw [if_pos a1, if_pos a1]
            · rw [if_neg a1, if_neg a1, rest3_hi f (by omega)]
          rw [eS, hmb, hma, ← hmr, hI, eN]
          funext a
          simp only [jst, jup]
          by_cases h1 : a = 102
          · subst h1; simp
          by_cases h2 : a = 98
          · subst h2; simp [upd_upd]
          by_cases h3 : a = 106
          · subst h3; simp
          simp [h1, h2, h3]

set_option maxHeartbeats 2000000 in
set_option maxRecDepth 20000 in
theorem s_Dsong_b (m : jM) (V : Nat) (hV : V ≤ 3) (h1 : m 102 1 = nI V) (x n k : Int32) (hb : ¬ (inN x V ∧ inN n 5 ∧ -1 ≤ k ∧ k ≤ n - 1)) : iX mX4_song [.ref 98, .int x, .int n, .int k] m (fun v m1 => v = -1000001 ∧ m = m1) := by
  refine jX_of (L := [some (.ref 98), some (.int x), some (.int n), some (.int k), none, none, none, none, none, none]) 6 rfl rfl (by decide +kernel) rfl ?_
  refine e_aload_n dX4_song_0 rfl ?_
  refine e_iload_n dX4_song_1 rfl ?_
  refine e_callVi (n := 1) mX4_isSinger [.int x] dX4_song_2 ckX4_174 rfl (by decide +kernel) rfl rfl rfl rfl (Nat.le_of_ble_eq_true rfl) ⟨Nat.zero_le _, Nat.zero_le _⟩ (s_sngN x m V hV h1) (fun v2 m1 hm1 => ?_)
  rcases hm1 with ⟨rfl, ⟨rfl, q⟩ | ⟨rfl, q⟩⟩
  · refine e_if_eq 35 dX4_song_5 (by decide) (fun h => absurd h (by decide)) (fun c5 => ?_)
    refine e_iload_n dX4_song_8 rfl ?_
    refine e_i2l dX4_song_9 ?_
    refine e_lconst (v := 0) dX4_song_10 rfl ?_
    refine e_ldc2 dX4_song_11 kkX4_208 ?_
    refine e_callSi (n := 3) mX4_in [.long (Int32.toInt64 n), .long 0, .long (4)] dX4_song_14 ckX4_60 rfl (by decide +kernel) rfl rfl (Nat.le_of_ble_eq_true rfl) ⟨Nat.zero_le _, Nat.zero_le _⟩ (s_inN n (4) 5 (by decide) (by decide) m) (fun v14 m2 hm2 => ?_)
    rcases hm2 with ⟨rfl, ⟨rfl, q1⟩ | ⟨rfl, q1⟩⟩
    · refine e_if_eq 35 dX4_song_17 (by decide) (fun h => absurd h (by decide)) (fun c17 => ?_)
      refine e_iload_n dX4_song_20 rfl ?_
      refine e_i2l dX4_song_21 ?_
      refine e_ldc2 dX4_song_22 kkX4_210 ?_
      refine e_iload_n dX4_song_25 rfl ?_
      refine e_iconst (v := 1) dX4_song_26 rfl ?_
      refine e_isub dX4_song_27 ?_
      refine e_i2l dX4_song_28 ?_
      refine e_callSi (n := 3) mX4_in [.long (Int32.toInt64 k), .long (-1), .long (Int32.toInt64 (n - 1))] dX4_song_29 ckX4_60 rfl (by decide +kernel) rfl rfl (Nat.le_of_ble_eq_true rfl) ⟨Nat.zero_le _, Nat.zero_le _⟩ (s_in32 k (-1) (n - 1) m) (fun v29 m3 hm3 => ?_)
      rcases hm3 with ⟨rfl, ⟨rfl, q2⟩ | ⟨rfl, q2⟩⟩
      · exact False.elim (hb ⟨q, q1, q2.1, q2.2⟩)
      · refine e_if_ne 38 dX4_song_32 (by decide) (fun h => absurd h (by decide)) (fun c32 => ?_)
        refine e_ldc dX4_song_35 kkX4_70 ?_
        exact e_iret dX4_song_37 rfl (⟨rfl, rfl⟩)
    · refine e_if_eq 35 dX4_song_17 (by decide) (fun c17 => ?_) (fun h => absurd h (by decide))
      refine e_ldc dX4_song_35 kkX4_70 ?_
      exact e_iret dX4_song_37 rfl (⟨rfl, rfl⟩)
  · refine e_if_eq 35 dX4_song_5 (by decide) (fun c5 => ?_) (fun h => absurd h (by decide))
    refine e_ldc dX4_song_35 kkX4_70 ?_
    exact e_iret dX4_song_37 rfl (⟨rfl, rfl⟩)

set_option maxHeartbeats 2000000 in
set_option maxRecDepth 20000 in
theorem s_DsongM (m : jM) (V : Nat) (hV : V ≤ 3) (h1 : m 102 1 = nI V) (P : Nat) (hP : P ≤ 5) (h2 : m 102 2 = nI P) (h01 : d01 (m 102) P) (s : Nat) (hs : s < V) (n : Nat) (hn : n ≤ 4) (hkk : -1 ≤ (-1 : Int32) ∧ (-1 : Int32) ≤ nI n - 1) : iX mX4_song [.ref 98, .int (nI s), .int (nI n), .int (-1)] m (fun v m1 => v = (soB (m 102) s n V P (8 ^ n)).1 ∧ ∃ f x g, smM m f x g = m1) := by
  refine jX_of (L := [some (.ref 98), some (.int (nI s)), some (.int (nI n)), some (.int (-1)), none, none, none, none, none, none]) 6 rfl rfl (by decide +kernel) rfl ?_
  refine e_aload_n dX4_song_0 rfl ?_
  refine e_iload_n dX4_song_1 rfl ?_
  refine e_callVi (n := 1) mX4_isSinger [.int (nI s)] dX4_song_2 ckX4_174 rfl (by decide +kernel) rfl rfl rfl rfl (Nat.le_of_ble_eq_true rfl) ⟨Nat.zero_le _, Nat.zero_le _⟩ (s_sngN (nI s) m V hV h1) (fun v2 m1 hm1 => ?_)
  rcases hm1 with ⟨rfl, ⟨rfl, q6⟩ | ⟨rfl, q6⟩⟩
  · refine e_if_eq 35 dX4_song_5 (by decide) (fun h => absurd h (by decide)) (fun c5 => ?_)
    refine e_iload_n dX4_song_8 rfl ?_
    refine e_i2l dX4_song_9 ?_
    refine e_lconst (v := 0) dX4_song_10 rfl ?_
    refine e_ldc2 dX4_song_11 kkX4_208 ?_
    refine e_callSi (n := 3) mX4_in [.long (Int32.toInt64 (nI n)), .long 0, .long (4)] dX4_song_14 ckX4_60 rfl (by decide +kernel) rfl rfl (Nat.le_of_ble_eq_true rfl) ⟨Nat.zero_le _, Nat.zero_le _⟩ (s_inN (nI n) (4) 5 (by decide) (by decide) m) (fun v14 m2 hm2 => ?_)
    rcases hm2 with ⟨rfl, ⟨rfl, q2⟩ | ⟨rfl, q2⟩⟩
    · refine e_if_eq 35 dX4_song_17 (by decide) (fun h => absurd h (by decide)) (fun c17 => ?_)
      refine e_iload_n dX4_song_20 rfl ?_
      refine e_i2l dX4_song_21 ?_
      refine e_ldc2 dX4_song_22 kkX4_210 ?_
      refine e_iload_n dX4_song_25 rfl ?_
      refine e_iconst (v := 1) dX4_song_26 rfl ?_
      refine e_isub dX4_song_27 ?_
      refine e_i2l dX4_song_28 ?_
      refine e_callSi (n := 3) mX4_in [.long (Int32.toInt64 (-1)), .long (-1), .long (Int32.toInt64 ((nI n) - 1))] dX4_song_29 ckX4_60 rfl (by decide +kernel) rfl rfl (Nat.le_of_ble_eq_true rfl) ⟨Nat.zero_le _, Nat.zero_le _⟩ (s_in32 (-1) (-1) (nI n - 1) m) (fun v29 m3 hm3 => ?_)
      rcases hm3 with ⟨rfl, ⟨rfl, q3⟩ | ⟨rfl, q3⟩⟩
      · refine e_if_ne 38 dX4_song_32 (by decide) (fun c32 => ?_) (fun h => absurd h (by decide))
        refine e_aload_n dX4_song_38 rfl ?_
        refine e_callVv (n := 0) mX4_putAside [] dX4_song_39 ckX4_186 rfl (by decide +kernel) rfl rfl rfl rfl (Nat.le_of_ble_eq_true rfl) ⟨Nat.zero_le _, Nat.zero_le _⟩ (s_putAside m) (fun mp hmp => ?_)
        refine e_iconst (v := -1) dX4_song_42 rfl ?_
        refine e_istore (L' := [some (.ref 98), some (.int (nI s)), some (.int (nI n)), some (.int (-1)), some (.int (-1)), none, none, none, none, none]) dX4_song_43 (Nat.le_of_ble_eq_true rfl) (Nat.le_of_ble_eq_true rfl) (jnl_at (i := 3) rfl) rfl ?_
        refine e_iconst (v := 0) dX4_song_45 rfl ?_
        refine e_istore (L' := [some (.ref 98), some (.int (nI s)), some (.int (nI n)), some (.int (-1)), some (.int (-1)), some (.int 0), none, none, none, none]) dX4_song_46 (Nat.le_of_ble_eq_true rfl) (Nat.le_of_ble_eq_true rfl) (jnl_at (i := 4) rfl) rfl ?_
        refine e_iconst (v := 0) dX4_song_48 rfl ?_
        refine e_istore (L' := [some (.ref 98), some (.int (nI s)), some (.int (nI n)), some (.int (-1)), some (.int (-1)), some (.int 0), some (.int 0), none, none, none]) dX4_song_49 (Nat.le_of_ble_eq_true rfl) (Nat.le_of_ble_eq_true rfl) (jnl_at (i := 5) rfl) rfl ?_
        refine e_iconst (v := 0) dX4_song_51 rfl ?_
        refine e_istore (L' := [some (.ref 98), some (.int (nI s)), some (.int (nI n)), some (.int (-1)), some (.int (-1)), some (.int 0), some (.int 0), some (.int 0), none, none]) dX4_song_52 (Nat.le_of_ble_eq_true rfl) (Nat.le_of_ble_eq_true rfl) (jnl_at (i := 6) rfl) rfl ?_
        refine e_loopS (σ := (Nat → Int32) × Int32 × (Nat → Int32)) 54 (8 ^ n) (fun u ⟨f, x, g⟩ => [some (.ref 98), some (.int (nI s)), some (.int (nI n)), some (.int (-1)), some (.int ((soB (m 102) s n V P u).1)), some (.int (nI (soB (m 102) s n V P u).2.1)), some (.int (nI (soB (m 102) s n V P u).2.2)), some (.int (nI u)), none, none]) (fun u ⟨f, x, g⟩ mm => mm = smM m f x g) 0 (mp 106, mp 98 21, mp 109) (Nat.zero_le _) rfl (by rw [← hmp]; exact (smM_0 m).symm) ?_ ?_
        · intro ss mm hI
          obtain ⟨f, x, g⟩ := ss
          show jE _ _ 54 [some (.ref 98), some (.int (nI s)), some (.int (nI n)), some (.int (-1)), some (.int ((soB (m 102) s n V P (8 ^ n)).1)), some (.int (nI (soB (m 102) s n V P (8 ^ n)).2.1)), some (.int (nI (soB (m 102) s n V P (8 ^ n)).2.2)), some (.int (nI (8 ^ n))), none, none] [] mm
          have hI : mm = smM m f x g := hI
          have h4k := eight_le hn
          refine e_iload dX4_song_54 rfl ?_
          refine e_iconst (v := 1) dX4_song_56 rfl ?_
          refine e_iconst (v := 3) dX4_song_57 rfl ?_
          refine e_iload_n dX4_song_58 rfl ?_
          refine e_imul dX4_song_59 ?_
          rw [show 3 * (nI n) = nI (3 * n) from pk_mul 3 n]
          refine e_ishl dX4_song_60 ?_
          rw [show 1 <<< ((nI (3 * n)) &&& 31) = nI (8 ^ n) from shl3 n (by omega)]
          refine e_icmp_ge 169 dX4_song_61 (by decide) (fun c61 => ?_) (fun h => absurd (j_done rfl rfl) h)
          refine e_iload_n dX4_song_169 rfl ?_
          refine e_if_ge 178 dX4_song_170 (by decide) (fun h => absurd h (by decide)) (fun c170 => ?_)
          refine e_iload dX4_song_173 rfl ?_
          refine e_goto 191 dX4_song_175 (by decide) ?_
          exact e_iret dX4_song_191 rfl (⟨rfl, f, x, g, hI.symm⟩)
        · intro u hk ss mm hI ih
          obtain ⟨f, x, g⟩ := ss
          show jE _ _ 54 [some (.ref 98), some (.int (nI s)), some (.int (nI n)), some (.int (-1)), some (.int ((soB (m 102) s n V P u).1)), some (.int (nI (soB (m 102) s n V P u).2.1)), some (.int (nI (soB (m 102) s n V P u).2.2)), some (.int (nI u)), none, none] [] mm
          have hI : mm = smM m f x g := hI
          have g102 : mm 102 = m 102 := by rw [hI]; exact smM_102 _ _ _ _
          have h4k := eight_le hn
          refine e_iload dX4_song_54 rfl ?_
          refine e_iconst (v := 1) dX4_song_56 rfl ?_
          refine e_iconst (v := 3) dX4_song_57 rfl ?_
          refine e_iload_n dX4_song_58 rfl ?_
          refine e_imul dX4_song_59 ?_
          rw [show 3 * (nI n) = nI (3 * n) from pk_mul 3 n]
          refine e_ishl dX4_song_60 ?_
          rw [show 1 <<< ((nI (3 * n)) &&& 31) = nI (8 ^ n) from shl3 n (by omega)]
          refine e_icmp_ge 169 dX4_song_61 (by decide) (fun h => absurd h (j_more (N := 8 ^ n) rfl rfl (by omega) (by omega))) (fun c61 => ?_)
          refine e_iconst (v := 0) dX4_song_64 rfl ?_
          refine e_istore (L' := [some (.ref 98), some (.int (nI s)), some (.int (nI n)), some (.int (-1)), some (.int ((soB (m 102) s n V P u).1)), some (.int (nI (soB (m 102) s n V P u).2.1)), some (.int (nI (soB (m 102) s n V P u).2.2)), some (.int (nI u)), some (.int 0), none]) dX4_song_65 (Nat.le_of_ble_eq_true rfl) (Nat.le_of_ble_eq_true rfl) (jnl_at (i := 7) rfl) rfl ?_
          refine e_loop 67 n (fun p => [some (.ref 98), some (.int (nI s)), some (.int (nI n)), some (.int (-1)), some (.int ((soB (m 102) s n V P u).1)), some (.int (nI (soB (m 102) s n V P u).2.1)), some (.int (nI (soB (m 102) s n V P u).2.2)), some (.int (nI u)), some (.int (nI p)), none]) (fun p => jup mm 109 (va_cpy (rwS n u) (mm 109) 0 0 p)) 0 (Nat.zero_le _) rfl (by rw [cpy_0, jup_id]) ?_ ?_
          · show jE _ _ 67 [some (.ref 98), some (.int (nI s)), some (.int (nI n)), some (.int (-1)), some (.int ((soB (m 102) s n V P u).1)), some (.int (nI (soB (m 102) s n V P u).2.1)), some (.int (nI (soB (m 102) s n V P u).2.2)), some (.int (nI u)), some (.int (nI n)), none] [] (jup mm 109 (va_cpy (rwS n u) (mm 109) 0 0 n))
            obtain ⟨mr, hmr⟩ : ∃ y : jM, y = jup mm 109 (va_cpy (rwS n u) (mm 109) 0 0 n) := ⟨_, rfl⟩
            refine e_start rfl hmr.symm ?_
            refine e_iload dX4_song_67 rfl ?_
            refine e_iload_n dX4_song_69 rfl ?_
            refine e_icmp_ge 100 dX4_song_70 (by decide) (fun c70 => ?_) (fun h => absurd (j_done rfl rfl) h)
            have hmg : mm 109 = g := by rw [hI]; unfold smM; rw [jup_s]
            refine e_aload_n dX4_song_100 rfl ?_
            refine e_iload_n dX4_song_101 rfl ?_
            refine e_iload_n dX4_song_102 rfl ?_
            refine e_callVi (n := 2) mX4_singsRow [.int (nI s), .int (nI n)] dX4_song_103 ckX4_212 rfl (by decide +kernel) rfl rfl rfl rfl (Nat.le_of_ble_eq_true rfl) ⟨Nat.zero_le _, Nat.zero_le _⟩ (s_singsRow mr V hV (by rw [hmr, jup_n _ _ (by decide), g102]; exact h1) P hP (by rw [hmr, jup_n _ _ (by decide), g102]; exact h2) s hs n hn) (fun v103 ms hms => ?_)
            obtain ⟨hv1, f2, k2, hk2, hkn, hms⟩ := hms
            subst hv1
            have e109 : mr 109 = (va_cpy (rwS n u) g 0 0 n) := by rw [hmr, jup_s, hmg]
            have e102 : mr 102 = m 102 := by rw [hmr, jup_n _ _ (by decide), g102]
            have hrw : ∀ j, j < n → (va_cpy (rwS n u) g 0 0 n) j = (rwS n u) j := fun j hj => by unfold va_cpy; rw [if_pos (by omega), Nat.zero_add, Nat.sub_zero]
            have eC : sgC (mr 102) s (mr 109) V P n = sgC (m 102) s (rwS n u) V P n := by rw [e102, e109]; exact sgC_congr n hrw
            have es2 : ms 102 = sgS (m 102) s (rwS n u) V P k2 := by rw [← hms, jst_n _ _ _ (by decide), jup_s, e102, e109]; exact sgS_congr k2 (fun j hj => hrw j (by omega))
            have es21 : ms 98 21 = nI (sgN (rwS n u) k2) := by rw [← hms, jst_s, upd_s, e109, sgN_congr k2 (fun j hj => hrw j (by omega))]
            rw [eC]
            refine e_istore (L' := [some (.ref 98), some (.int (nI s)), some (.int (nI n)), some (.int (-1)), some (.int ((soB (m 102) s n V P u).1)), some (.int (nI (soB (m 102) s n V P u).2.1)), some (.int (nI (soB (m 102) s n V P u).2.2)), some (.int (nI u)), some (.int (b01 (sgC (m 102) s (rwS n u) V P n))), none]) dX4_song_106 (Nat.le_of_ble_eq_true rfl) (Nat.le_of_ble_eq_true rfl) (jnl_at (i := 7) rfl) rfl ?_
            refine e_aload_n dX4_song_108 rfl ?_
            refine e_callVi (n := 0) mX4_setPans [] dX4_song_109 ckX4_167 rfl (by decide +kernel) rfl rfl rfl rfl (Nat.le_of_ble_eq_true rfl) ⟨Nat.zero_le _, Nat.zero_le _⟩ (s_setPans ms P hP (by rw [es2]; exact (sgS_lo hV (by omega) (by decide) _).trans h2)) (fun v109 m6 hm6 => ?_)
            obtain ⟨rfl, rfl⟩ := hm6
            rw [es2, setB_N P hP (sgS_01 hV hP h01 _)]
            refine e_callSi (n := 1) mX4_ones [.int (nI (setN (sgS (m 102) s (rwS n u) V P k2) P))] dX4_song_112 ckX4_202 rfl (by decide +kernel) rfl rfl (Nat.le_of_ble_eq_true rfl) ⟨Nat.zero_le _, Nat.zero_le _⟩ (s_ones ms (setN (sgS (m 102) s (rwS n u) V P k2) P) (set_256 hP)) (fun v112 m7 hm7 => ?_)
            obtain ⟨rfl, rfl⟩ := hm7
            refine e_istore (L' := [some (.ref 98), some (.int (nI s)), some (.int (nI n)), some (.int (-1)), some (.int ((soB (m 102) s n V P u).1)), some (.int (nI (soB (m 102) s n V P u).2.1)), some (.int (nI (soB (m 102) s n V P u).2.2)), some (.int (nI u)), some (.int (b01 (sgC (m 102) s (rwS n u) V P n))), some (.int (nI (popc (setN (sgS (m 102) s (rwS n u) V P k2) P))))]) dX4_song_115 (Nat.le_of_ble_eq_true rfl) (Nat.le_of_ble_eq_true rfl) (jnl_at (i := 8) rfl) rfl ?_
            refine e_iload dX4_song_117 rfl ?_
            refine e_if_eq 159 dX4_song_119 (by decide) (fun c119 => ?_) (fun c119 => ?_)
            · have hcan : sgC (m 102) s (rwS n u) V P n = false := b01_f c119
              refine e_aload_n dX4_song_159 rfl ?_
              refine e_callVv (n := 0) mX4_takeBack [] dX4_song_160 ckX4_193 rfl (by decide +kernel) rfl rfl rfl rfl (Nat.le_of_ble_eq_true rfl) ⟨Nat.zero_le _, Nat.zero_le _⟩ (s_takeBack ms) (fun mt hmt => ?_)
              refine e_iinc (v := nI (u + 1)) (L' := [some (.ref 98), some (.int (nI s)), some (.int (nI n)), some (.int (-1)), some (.int ((soB (m 102) s n V P u).1)), some (.int (nI (soB (m 102) s n V P u).2.1)), some (.int (nI (soB (m 102) s n V P u).2.2)), some (.int (nI (u + 1))), some (.int (b01 (sgC (m 102) s (rwS n u) V P n))), some (.int (nI (popc (setN (sgS (m 102) s (rwS n u) V P k2) P))))]) dX4_song_163 rfl (j_inc rfl) (by decide) (jnl_at (i := 6) rfl) rfl ?_
              refine e_goto 54 dX4_song_166 (by decide) ?_
              refine e_weak [some (.ref 98), some (.int (nI s)), some (.int (nI n)), some (.int (-1)), some (.int ((soB (m 102) s n V P u).1)), some (.int (nI (soB (m 102) s n V P u).2.1)), some (.int (nI (soB (m 102) s n V P u).2.2)), some (.int (nI (u + 1))), none, none] (by simp [jle]) ?_
              have eB : (soB (m 102) s n V P (u + 1)) = soB (m 102) s n V P u := if_neg (fun z => by first | exact absurd z.1 (by rw [hcan]; decide) | exact z.2.elim c126 (fun z3 => c133 z3.1) | exact z.2.elim c126 (fun z3 => hfew z3.2))
              refine e_start (by simp only [eB]) rfl (ih (f2, nI (sgN (mr 109) k2), va_cpy (rwS n u) (mm 109) 0 0 n) mt ?_)
              show mt = smM m f2 (nI (sgN (mr 109) k2)) (va_cpy (rwS n u) (mm 109) 0 0 n)
              rw [← hmt, ← hms, hmr, hI]
              refine smM_step m f f2 x _ g _ _ (fun j hj => ?_)
              rw [sgS_hi hV hP hj, jup_n _ _ (by decide), smM_102]
            · have hcan : sgC (m 102) s (rwS n u) V P n = true := b01_t c119
              have hk := hkn (by rw [eC]; exact hcan)
              rw [hk] at es21
              rw [hk, show nI (popc (setN (sgS (m 102) s (rwS n u) V P n) P)) = soV (m 102) s n V P u from rfl]
              refine e_iload dX4_song_122 rfl ?_
              refine e_iload dX4_song_124 rfl ?_
              refine e_icmp_gt 145 dX4_song_126 (by decide) (fun c126 => ?_) (fun c126 => ?_)
              · refine e_iload dX4_song_145 rfl ?_
                refine e_istore (L' := [some (.ref 98), some (.int (nI s)), some (.int (nI n)), some (.int (-1)), some (.int (soV (m 102) s n V P u)), some (.int (nI (soB (m 102) s n V P u).2.1)), some (.int (nI (soB (m 102) s n V P u).2.2)), some (.int (nI u)), some (.int (b01 (sgC (m 102) s (rwS n u) V P n))), some (.int (soV (m 102) s n V P u))]) dX4_song_147 (Nat.le_of_ble_eq_true rfl) (Nat.le_of_ble_eq_true rfl) (jnl_at (i := 3) rfl) rfl ?_
                refine e_aload_n dX4_song_149 rfl ?_
                refine e_getI dX4_song_150 lkX4_205 rfl rfl ?_
                rw [show ms 98 21 = nI (sgN (rwS n u) n) from es21]
                refine e_istore (L' := [some (.ref 98), some (.int (nI s)), some (.int (nI n)), some (.int (-1)), some (.int (soV (m 102) s n V P u)), some (.int (nI (sgN (rwS n u) n))), some (.int (nI (soB (m 102) s n V P u).2.2)), some (.int (nI u)), some (.int (b01 (sgC (m 102) s (rwS n u) V P n))), some (.int (soV (m 102) s n V P u))]) dX4_song_153 (Nat.le_of_ble_eq_true rfl) (Nat.le_of_ble_eq_true rfl) (jnl_at (i := 4) rfl) rfl ?_
                refine e_iload dX4_song_155 rfl ?_
                refine e_istore (L' := [some (.ref 98), some (.int (nI s)), some (.int (nI n)), some (.int (-1)), some (.int (soV (m 102) s n V P u)), some (.int (nI (sgN (rwS n u) n))), some (.int (nI u)), some (.int (nI u)), some (.int (b01 (sgC (m 102) s (rwS n u) V P n))), some (.int (soV (m 102) s n V P u))]) dX4_song_157 (Nat.le_of_ble_eq_true rfl) (Nat.le_of_ble_eq_true rfl) (jnl_at (i := 5) rfl) rfl ?_
                refine e_aload_n dX4_song_159 rfl ?_
                refine e_callVv (n := 0) mX4_takeBack [] dX4_song_160 ckX4_193 rfl (by decide +kernel) rfl rfl rfl rfl (Nat.le_of_ble_eq_true rfl) ⟨Nat.zero_le _, Nat.zero_le _⟩ (s_takeBack ms) (fun mt hmt => ?_)
                refine e_iinc (v := nI (u + 1)) (L' := [some (.ref 98), some (.int (nI s)), some (.int (nI n)), some (.int (-1)), some (.int (soV (m 102) s n V P u)), some (.int (nI (sgN (rwS n u) n))), some (.int (nI u)), some (.int (nI (u + 1))), some (.int (b01 (sgC (m 102) s (rwS n u) V P n))), some (.int (soV (m 102) s n V P u))]) dX4_song_163 rfl (j_inc rfl) (by decide) (jnl_at (i := 6) rfl) rfl ?_
                refine e_goto 54 dX4_song_166 (by decide) ?_
                refine e_weak [some (.ref 98), some (.int (nI s)), some (.int (nI n)), some (.int (-1)), some (.int (soV (m 102) s n V P u)), some (.int (nI (sgN (rwS n u) n))), some (.int (nI u)), some (.int (nI (u + 1))), none, none] (by simp [jle]) ?_
                have eB : (soB (m 102) s n V P (u + 1)) = (soV (m 102) s n V P u, sgN (rwS n u) n, u) := if_pos ⟨hcan, by first | exact Or.inl c126 | exact Or.inr ⟨c133, hfew⟩⟩
                refine e_start (by simp only [eB]) rfl (ih (f2, nI (sgN (mr 109) k2), va_cpy (rwS n u) (mm 109) 0 0 n) mt ?_)
                show mt = smM m f2 (nI (sgN (mr 109) k2)) (va_cpy (rwS n u) (mm 109) 0 0 n)
                rw [← hmt, ← hms, hmr, hI]
                refine smM_step m f f2 x _ g _ _ (fun j hj => ?_)
                rw [sgS_hi hV hP hj, jup_n _ _ (by decide), smM_102]
              · refine e_iload dX4_song_129 rfl ?_
                refine e_iload dX4_song_131 rfl ?_
                refine e_icmp_ne 159 dX4_song_133 (by decide) (fun c133 => ?_) (fun c133 => ?_)
                · refine e_aload_n dX4_song_159 rfl ?_
                  refine e_callVv (n := 0) mX4_takeBack [] dX4_song_160 ckX4_193 rfl (by decide +kernel) rfl rfl rfl rfl (Nat.le_of_ble_eq_true rfl) ⟨Nat.zero_le _, Nat.zero_le _⟩ (s_takeBack ms) (fun mt hmt => ?_)
                  refine e_iinc (v := nI (u + 1)) (L' := [some (.ref 98), some (.int (nI s)), some (.int (nI n)), some (.int (-1)), some (.int ((soB (m 102) s n V P u).1)), some (.int (nI (soB (m 102) s n V P u).2.1)), some (.int (nI (soB (m 102) s n V P u).2.2)), some (.int (nI (u + 1))), some (.int (b01 (sgC (m 102) s (rwS n u) V P n))), some (.int (soV (m 102) s n V P u))]) dX4_song_163 rfl (j_inc rfl) (by decide) (jnl_at (i := 6) rfl) rfl ?_
                  refine e_goto 54 dX4_song_166 (by decide) ?_
                  refine e_weak [some (.ref 98), some (.int (nI s)), some (.int (nI n)), some (.int (-1)), some (.int ((soB (m 102) s n V P u).1)), some (.int (nI (soB (m 102) s n V P u).2.1)), some (.int (nI (soB (m 102) s n V P u).2.2)), some (.int (nI (u + 1))), none, none] (by simp [jle]) ?_
                  have eB : (soB (m 102) s n V P (u + 1)) = soB (m 102) s n V P u := if_neg (fun z => by first | exact absurd z.1 (by rw [hcan]; decide) | exact z.2.elim c126 (fun z3 => c133 z3.1) | exact z.2.elim c126 (fun z3 => hfew z3.2))
                  refine e_start (by simp only [eB]) rfl (ih (f2, nI (sgN (mr 109) k2), va_cpy (rwS n u) (mm 109) 0 0 n) mt ?_)
                  show mt = smM m f2 (nI (sgN (mr 109) k2)) (va_cpy (rwS n u) (mm 109) 0 0 n)
                  rw [← hmt, ← hms, hmr, hI]
                  refine smM_step m f f2 x _ g _ _ (fun j hj => ?_)
                  rw [sgS_hi hV hP hj, jup_n _ _ (by decide), smM_102]
                · refine e_aload_n dX4_song_136 rfl ?_
                  refine e_getI dX4_song_137 lkX4_205 rfl rfl ?_
                  rw [show ms 98 21 = nI (sgN (rwS n u) n) from es21]
                  refine e_iload dX4_song_140 rfl ?_
                  refine e_icmp_ge 159 dX4_song_142 (by decide) (fun c142 => ?_) (fun c142 => ?_)
                  · have hfew : ¬ sgN (rwS n u) n < (soB (m 102) s n V P u).2.1 := fun z => absurd c142 (Int32.not_le.mpr ((j_lt (by have := sgN_le (rwS n u) n; omega) (by have := (soB_lt (st := m 102) (s := s) (n := n) (V := V) (P := P) u).1; omega)).mpr z))
                    refine e_aload_n dX4_song_159 rfl ?_
                    refine e_callVv (n := 0) mX4_takeBack [] dX4_song_160 ckX4_193 rfl (by decide +kernel) rfl rfl rfl rfl (Nat.le_of_ble_eq_true rfl) ⟨Nat.zero_le _, Nat.zero_le _⟩ (s_takeBack ms) (fun mt hmt => ?_)
                    refine e_iinc (v := nI (u + 1)) (L' := [some (.ref 98), some (.int (nI s)), some (.int (nI n)), some (.int (-1)), some (.int ((soB (m 102) s n V P u).1)), some (.int (nI (soB (m 102) s n V P u).2.1)), some (.int (nI (soB (m 102) s n V P u).2.2)), some (.int (nI (u + 1))), some (.int (b01 (sgC (m 102) s (rwS n u) V P n))), some (.int (soV (m 102) s n V P u))]) dX4_song_163 rfl (j_inc rfl) (by decide) (jnl_at (i := 6) rfl) rfl ?_
                    refine e_goto 54 dX4_song_166 (by decide) ?_
                    refine e_weak [some (.ref 98), some (.int (nI s)), some (.int (nI n)), some (.int (-1)), some (.int ((soB (m 102) s n V P u).1)), some (.int (nI (soB (m 102) s n V P u).2.1)), some (.int (nI (soB (m 102) s n V P u).2.2)), some (.int (nI (u + 1))), none, none] (by simp [jle]) ?_
                    have eB : (soB (m 102) s n V P (u + 1)) = soB (m 102) s n V P u := if_neg (fun z => by first | exact absurd z.1 (by rw [hcan]; decide) | exact z.2.elim c126 (fun z3 => c133 z3.1) | exact z.2.elim c126 (fun z3 => hfew z3.2))
                    refine e_start (by simp only [eB]) rfl (ih (f2, nI (sgN (mr 109) k2), va_cpy (rwS n u) (mm 109) 0 0 n) mt ?_)
                    show mt = smM m f2 (nI (sgN (mr 109) k2)) (va_cpy (rwS n u) (mm 109) 0 0 n)
                    rw [← hmt, ← hms, hmr, hI]
                    refine smM_step m f f2 x _ g _ _ (fun j hj => ?_)
                    rw [sgS_hi hV hP hj, jup_n _ _ (by decide), smM_102]
                  · have hfew : sgN (rwS n u) n < (soB (m 102) s n V P u).2.1 := (j_lt (by have := sgN_le (rwS n u) n; omega) (by have := (soB_lt (st := m 102) (s := s) (n := n) (V := V) (P := P) u).1; omega)).mp (Int32.not_le.mp c142)
                    refine e_iload dX4_song_145 rfl ?_
                    refine e_istore (L' := [some (.ref 98), some (.int (nI s)), some (.int (nI n)), some (.int (-1)), some (.int (soV (m 102) s n V P u)), some (.int (nI (soB (m 102) s n V P u).2.1)), some (.int (nI (soB (m 102) s n V P u).2.2)), some (.int (nI u)), some (.int (b01 (sgC (m 102) s (rwS n u) V P n))), some (.int (soV (m 102) s n V P u))]) dX4_song_147 (Nat.le_of_ble_eq_true rfl) (Nat.le_of_ble_eq_true rfl) (jnl_at (i := 3) rfl) rfl ?_
                    refine e_aload_n dX4_song_149 rfl ?_
                    refine e_getI dX4_song_150 lkX4_205 rfl rfl ?_
                    rw [show ms 98 21 = nI (sgN (rwS n u) n) from es21]
                    refine e_istore (L' := [some (.ref 98), some (.int (nI s)), some (.int (nI n)), some (.int (-1)), some (.int (soV (m 102) s n V P u)), some (.int (nI (sgN (rwS n u) n))), some (.int (nI (soB (m 102) s n V P u).2.2)), some (.int (nI u)), some (.int (b01 (sgC (m 102) s (rwS n u) V P n))), some (.int (soV (m 102) s n V P u))]) dX4_song_153 (Nat.le_of_ble_eq_true rfl) (Nat.le_of_ble_eq_true rfl) (jnl_at (i := 4) rfl) rfl ?_
                    refine e_iload dX4_song_155 rfl ?_
                    refine e_istore (L' := [some (.ref 98), some (.int (nI s)), some (.int (nI n)), some (.int (-1)), some (.int (soV (m 102) s n V P u)), some (.int (nI (sgN (rwS n u) n))), some (.int (nI u)), some (.int (nI u)), some (.int (b01 (sgC (m 102) s (rwS n u) V P n))), some (.int (soV (m 102) s n V P u))]) dX4_song_157 (Nat.le_of_ble_eq_true rfl) (Nat.le_of_ble_eq_true rfl) (jnl_at (i := 5) rfl) rfl ?_
                    refine e_aload_n dX4_song_159 rfl ?_
                    refine e_callVv (n := 0) mX4_takeBack [] dX4_song_160 ckX4_193 rfl (by decide +kernel) rfl rfl rfl rfl (Nat.le_of_ble_eq_true rfl) ⟨Nat.zero_le _, Nat.zero_le _⟩ (s_takeBack ms) (fun mt hmt => ?_)
                    refine e_iinc (v := nI (u + 1)) (L' := [some (.ref 98), some (.int (nI s)), some (.int (nI n)), some (.int (-1)), some (.int (soV (m 102) s n V P u)), some (.int (nI (sgN (rwS n u) n))), some (.int (nI u)), some (.int (nI (u + 1))), some (.int (b01 (sgC (m 102) s (rwS n u) V P n))), some (.int (soV (m 102) s n V P u))]) dX4_song_163 rfl (j_inc rfl) (by decide) (jnl_at (i := 6) rfl) rfl ?_
                    refine e_goto 54 dX4_song_166 (by decide) ?_
                    refine e_weak [some (.ref 98), some (.int (nI s)), some (.int (nI n)), some (.int (-1)), some (.int (soV (m 102) s n V P u)), some (.int (nI (sgN (rwS n u) n))), some (.int (nI u)), some (.int (nI (u + 1))), none, none] (by simp [jle]) ?_
                    have eB : (soB (m 102) s n V P (u + 1)) = (soV (m 102) s n V P u, sgN (rwS n u) n, u) := if_pos ⟨hcan, by first | exact Or.inl c126 | exact Or.inr ⟨c133, hfew⟩⟩
                    refine e_start (by simp only [eB]) rfl (ih (f2, nI (sgN (mr 109) k2), va_cpy (rwS n u) (mm 109) 0 0 n) mt ?_)
                    show mt = smM m f2 (nI (sgN (mr 109) k2)) (va_cpy (rwS n u) (mm 109) 0 0 n)
                    rw [← hmt, ← hms, hmr, hI]
                    refine smM_step m f f2 x _ g _ _ (fun j hj => ?_)
                    rw [sgS_hi hV hP hj, jup_n _ _ (by decide), smM_102]
          · intro p hk2 ih2
            show jE _ _ 67 [some (.ref 98), some (.int (nI s)), some (.int (nI n)), some (.int (-1)), some (.int ((soB (m 102) s n V P u).1)), some (.int (nI (soB (m 102) s n V P u).2.1)), some (.int (nI (soB (m 102) s n V P u).2.2)), some (.int (nI u)), some (.int (nI p)), none] [] (jup mm 109 (va_cpy (rwS n u) (mm 109) 0 0 p))
            obtain ⟨mb, hmb⟩ : ∃ y : jM, y = jup mm 109 (va_cpy (rwS n u) (mm 109) 0 0 p) := ⟨_, rfl⟩
            refine e_start rfl hmb.symm ?_
            refine e_iload dX4_song_67 rfl ?_
            refine e_iload_n dX4_song_69 rfl ?_
            refine e_icmp_ge 100 dX4_song_70 (by decide) (fun h => absurd h (j_more (N := n) rfl rfl (by omega) (by omega))) (fun c70 => ?_)
            refine e_aload_n dX4_song_73 rfl ?_
            refine e_getR (o := 11) (b := 109) dX4_song_74 lkX4_40 rfl rfl (by decide) rfl ?_
            refine e_iload dX4_song_77 rfl ?_
            refine e_iload dX4_song_79 rfl ?_
            refine e_iconst (v := 3) dX4_song_81 rfl ?_
            refine e_iload_n dX4_song_82 rfl ?_
            refine e_iconst (v := 1) dX4_song_83 rfl ?_
            refine e_isub dX4_song_84 ?_
            rw [show (nI n) - 1 = nI (n - 1) from pk_sub (a := n) (b := 1) (by omega)]
            refine e_iload dX4_song_85 rfl ?_
            refine e_isub dX4_song_87 ?_
            rw [show (nI (n - 1)) - (nI p) = nI (n - 1 - p) from pk_sub (by omega)]
            refine e_imul dX4_song_88 ?_
            rw [show 3 * (nI (n - 1 - p)) = nI (3 * (n - 1 - p)) from pk_mul 3 _]
            refine e_ishr dX4_song_89 ?_
            refine e_bipush (v := 7) dX4_song_90 rfl ?_
            refine e_iand dX4_song_92 ?_
            rw [show ((nI u) >>> ((nI (3 * (n - 1 - p))) &&& 31)) &&& 7 = nI (dgS n u p) from dg_ok n (by omega) p (by omega) u (by omega)]
            refine e_iast dX4_song_93 rfl p rfl (by omega) (by decide) (fun m13 hm13 => ?_)
            refine e_iinc (v := nI (p + 1)) (L' := [some (.ref 98), some (.int (nI s)), some (.int (nI n)), some (.int (-1)), some (.int ((soB (m 102) s n V P u).1)), some (.int (nI (soB (m 102) s n V P u).2.1)), some (.int (nI (soB (m 102) s n V P u).2.2)), some (.int (nI u)), some (.int (nI (p + 1))), none]) dX4_song_94 rfl (j_inc rfl) (by decide) (jnl_at (i := 7) rfl) rfl ?_
            refine e_goto 67 dX4_song_97 (by decide) ?_
            refine e_start rfl ?_ ih2
            rw [hm13, hmb, jup_s, jup_jup]
            exact congrArg (jup mm 109) (cpy_s0' (by rw [Nat.zero_add]; rfl))
      · exact False.elim (q3 hkk)
    · exact False.elim (q2 (inN_nI (by decide) (by omega)))
  · exact False.elim (q6 (inN_nI (by omega) hs))

set_option maxHeartbeats 2000000 in
set_option maxRecDepth 20000 in
theorem s_DsongK (m : jM) (V : Nat) (hV : V ≤ 3) (h1 : m 102 1 = nI V) (P : Nat) (hP : P ≤ 5) (h2 : m 102 2 = nI P) (h01 : d01 (m 102) P) (s : Nat) (hs : s < V) (n : Nat) (hn : n ≤ 4) (j : Nat) (hj : j < n) (hkk : -1 ≤ nI j ∧ nI j ≤ nI n - 1) : iX mX4_song [.ref 98, .int (nI s), .int (nI n), .int (nI j)] m (fun v m1 => v = nI (dgS n (soB (m 102) s n V P (8 ^ n)).2.2 j) ∧ ∃ f x g, smM m f x g = m1) := by
  refine jX_of (L := [some (.ref 98), some (.int (nI s)), some (.int (nI n)), some (.int (nI j)), none, none, none, none, none, none]) 6 rfl rfl (by decide +kernel) rfl ?_
  refine e_aload_n dX4_song_0 rfl ?_
  refine e_iload_n dX4_song_1 rfl ?_
  refine e_callVi (n := 1) mX4_isSinger [.int (nI s)] dX4_song_2 ckX4_174 rfl (by decide +kernel) rfl rfl rfl rfl (Nat.le_of_ble_eq_true rfl) ⟨Nat.zero_le _, Nat.zero_le _⟩ (s_sngN (nI s) m V hV h1) (fun v2 m1 hm1 => ?_)
  rcases hm1 with ⟨rfl, ⟨rfl, q6⟩ | ⟨rfl, q6⟩⟩
  · refine e_if_eq 35 dX4_song_5 (by decide) (fun h => absurd h (by decide)) (fun c5 => ?_)
    refine e_iload_n dX4_song_8 rfl ?_
    refine e_i2l dX4_song_9 ?_
    refine e_lconst (v := 0) dX4_song_10 rfl ?_
    refine e_ldc2 dX4_song_11 kkX4_208 ?_
    refine e_callSi (n := 3) mX4_in [.long (Int32.toInt64 (nI n)), .long 0, .long (4)] dX4_song_14 ckX4_60 rfl (by decide +kernel) rfl rfl (Nat.le_of_ble_eq_true rfl) ⟨Nat.zero_le _, Nat.zero_le _⟩ (s_inN (nI n) (4) 5 (by decide) (by decide) m) (fun v14 m2 hm2 => ?_)
    rcases hm2 with ⟨rfl, ⟨rfl, q2⟩ | ⟨rfl, q2⟩⟩
    · refine e_if_eq 35 dX4_song_17 (by decide) (fun h => absurd h (by decide)) (fun c17 => ?_)
      refine e_iload_n dX4_song_20 rfl ?_
      refine e_i2l dX4_song_21 ?_
      refine e_ldc2 dX4_song_22 kkX4_210 ?_
      refine e_iload_n dX4_song_25 rfl ?_
      refine e_iconst (v := 1) dX4_song_26 rfl ?_
      refine e_isub dX4_song_27 ?_
      refine e_i2l dX4_song_28 ?_
      refine e_callSi (n := 3) mX4_in [.long (Int32.toInt64 (nI j)), .long (-1), .long (Int32.toInt64 ((nI n) - 1))] dX4_song_29 ckX4_60 rfl (by decide +kernel) rfl rfl (Nat.le_of_ble_eq_true rfl) ⟨Nat.zero_le _, Nat.zero_le _⟩ (s_in32 (nI j) (-1) (nI n - 1) m) (fun v29 m3 hm3 => ?_)
      rcases hm3 with ⟨rfl, ⟨rfl, q3⟩ | ⟨rfl, q3⟩⟩
      · refine e_if_ne 38 dX4_song_32 (by decide) (fun c32 => ?_) (fun h => absurd h (by decide))
        refine e_aload_n dX4_song_38 rfl ?_
        refine e_callVv (n := 0) mX4_putAside [] dX4_song_39 ckX4_186 rfl (by decide +kernel) rfl rfl rfl rfl (Nat.le_of_ble_eq_true rfl) ⟨Nat.zero_le _, Nat.zero_le _⟩ (s_putAside m) (fun mp hmp => ?_)
        refine e_iconst (v := -1) dX4_song_42 rfl ?_
        refine e_istore (L' := [some (.ref 98), some (.int (nI s)), some (.int (nI n)), some (.int (nI j)), some (.int (-1)), none, none, none, none, none]) dX4_song_43 (Nat.le_of_ble_eq_true rfl) (Nat.le_of_ble_eq_true rfl) (jnl_at (i := 3) rfl) rfl ?_
        refine e_iconst (v := 0) dX4_song_45 rfl ?_
        refine e_istore (L' := [some (.ref 98), some (.int (nI s)), some (.int (nI n)), some (.int (nI j)), some (.int (-1)), some (.int 0), none, none, none, none]) dX4_song_46 (Nat.le_of_ble_eq_true rfl) (Nat.le_of_ble_eq_true rfl) (jnl_at (i := 4) rfl) rfl ?_
        refine e_iconst (v := 0) dX4_song_48 rfl ?_
        refine e_istore (L' := [some (.ref 98), some (.int (nI s)), some (.int (nI n)), some (.int (nI j)), some (.int (-1)), some (.int 0), some (.int 0), none, none, none]) dX4_song_49 (Nat.le_of_ble_eq_true rfl) (Nat.le_of_ble_eq_true rfl) (jnl_at (i := 5) rfl) rfl ?_
        refine e_iconst (v := 0) dX4_song_51 rfl ?_
        refine e_istore (L' := [some (.ref 98), some (.int (nI s)), some (.int (nI n)), some (.int (nI j)), some (.int (-1)), some (.int 0), some (.int 0), some (.int 0), none, none]) dX4_song_52 (Nat.le_of_ble_eq_true rfl) (Nat.le_of_ble_eq_true rfl) (jnl_at (i := 6) rfl) rfl ?_
        refine e_loopS (σ := (Nat → Int32) × Int32 × (Nat → Int32)) 54 (8 ^ n) (fun u ⟨f, x, g⟩ => [some (.ref 98), some (.int (nI s)), some (.int (nI n)), some (.int (nI j)), some (.int ((soB (m 102) s n V P u).1)), some (.int (nI (soB (m 102) s n V P u).2.1)), some (.int (nI (soB (m 102) s n V P u).2.2)), some (.int (nI u)), none, none]) (fun u ⟨f, x, g⟩ mm => mm = smM m f x g) 0 (mp 106, mp 98 21, mp 109) (Nat.zero_le _) rfl (by rw [← hmp]; exact (smM_0 m).symm) ?_ ?_
        · intro ss mm hI
          obtain ⟨f, x, g⟩ := ss
          show jE _ _ 54 [some (.ref 98), some (.int (nI s)), some (.int (nI n)), some (.int (nI j)), some (.int ((soB (m 102) s n V P (8 ^ n)).1)), some (.int (nI (soB (m 102) s n V P (8 ^ n)).2.1)), some (.int (nI (soB (m 102) s n V P (8 ^ n)).2.2)), some (.int (nI (8 ^ n))), none, none] [] mm
          have hI : mm = smM m f x g := hI
          have h4k := eight_le hn
          refine e_iload dX4_song_54 rfl ?_
          refine e_iconst (v := 1) dX4_song_56 rfl ?_
          refine e_iconst (v := 3) dX4_song_57 rfl ?_
          refine e_iload_n dX4_song_58 rfl ?_
          refine e_imul dX4_song_59 ?_
          rw [show 3 * (nI n) = nI (3 * n) from pk_mul 3 n]
          refine e_ishl dX4_song_60 ?_
          rw [show 1 <<< ((nI (3 * n)) &&& 31) = nI (8 ^ n) from shl3 n (by omega)]
          refine e_icmp_ge 169 dX4_song_61 (by decide) (fun c61 => ?_) (fun h => absurd (j_done rfl rfl) h)
          refine e_iload_n dX4_song_169 rfl ?_
          refine e_if_ge 178 dX4_song_170 (by decide) (fun c170 => ?_) (fun h => absurd (nI_pos' (by omega)) h)
          refine e_iload dX4_song_178 rfl ?_
          refine e_iconst (v := 3) dX4_song_180 rfl ?_
          refine e_iload_n dX4_song_181 rfl ?_
          refine e_iconst (v := 1) dX4_song_182 rfl ?_
          refine e_isub dX4_song_183 ?_
          rw [show (nI n) - 1 = nI (n - 1) from pk_sub (a := n) (b := 1) (by omega)]
          refine e_iload_n dX4_song_184 rfl ?_
          refine e_isub dX4_song_185 ?_
          rw [show (nI (n - 1)) - (nI j) = nI (n - 1 - j) from pk_sub (by omega)]
          refine e_imul dX4_song_186 ?_
          rw [show 3 * (nI (n - 1 - j)) = nI (3 * (n - 1 - j)) from pk_mul 3 _]
          refine e_ishr dX4_song_187 ?_
          refine e_bipush (v := 7) dX4_song_188 rfl ?_
          refine e_iand dX4_song_190 ?_
          rw [show ((nI (soB (m 102) s n V P (8 ^ n)).2.2) >>> ((nI (3 * (n - 1 - j))) &&& 31)) &&& 7 = nI (dgS n (soB (m 102) s n V P (8 ^ n)).2.2 j) from dg_ok n (by omega) j (by omega) _ (by have := (soB_lt (st := m 102) (s := s) (n := n) (V := V) (P := P) (8 ^ n)).2; have : 0 < 8 ^ n := Nat.pow_pos (by decide); omega)]
          exact e_iret dX4_song_191 rfl (⟨rfl, f, x, g, hI.symm⟩)
        · intro u hk ss mm hI ih
          obtain ⟨f, x, g⟩ := ss
          show jE _ _ 54 [some (.ref 98), some (.int (nI s)), some (.int (nI n)), some (.int (nI j)), some (.int ((soB (m 102) s n V P u).1)), some (.int (nI (soB (m 102) s n V P u).2.1)), some (.int (nI (soB (m 102) s n V P u).2.2)), some (.int (nI u)), none, none] [] mm
          have hI : mm = smM m f x g := hI
          have g102 : mm 102 = m 102 := by rw [hI]; exact smM_102 _ _ _ _
          have h4k := eight_le hn
          refine e_iload dX4_song_54 rfl ?_
          refine e_iconst (v := 1) dX4_song_56 rfl ?_
          refine e_iconst (v := 3) dX4_song_57 rfl ?_
          refine e_iload_n dX4_song_58 rfl ?_
          refine e_imul dX4_song_59 ?_
          rw [show 3 * (nI n) = nI (3 * n) from pk_mul 3 n]
          refine e_ishl dX4_song_60 ?_
          rw [show 1 <<< ((nI (3 * n)) &&& 31) = nI (8 ^ n) from shl3 n (by omega)]
          refine e_icmp_ge 169 dX4_song_61 (by decide) (fun h => absurd h (j_more (N := 8 ^ n) rfl rfl (by omega) (by omega))) (fun c61 => ?_)
          refine e_iconst (v := 0) dX4_song_64 rfl ?_
          refine e_istore (L' := [some (.ref 98), some (.int (nI s)), some (.int (nI n)), some (.int (nI j)), some (.int ((soB (m 102) s n V P u).1)), some (.int (nI (soB (m 102) s n V P u).2.1)), some (.int (nI (soB (m 102) s n V P u).2.2)), some (.int (nI u)), some (.int 0), none]) dX4_song_65 (Nat.le_of_ble_eq_true rfl) (Nat.le_of_ble_eq_true rfl) (jnl_at (i := 7) rfl) rfl ?_
          refine e_loop 67 n (fun p => [some (.ref 98), some (.int (nI s)), some (.int (nI n)), some (.int (nI j)), some (.int ((soB (m 102) s n V P u).1)), some (.int (nI (soB (m 102) s n V P u).2.1)), some (.int (nI (soB (m 102) s n V P u).2.2)), some (.int (nI u)), some (.int (nI p)), none]) (fun p => jup mm 109 (va_cpy (rwS n u) (mm 109) 0 0 p)) 0 (Nat.zero_le _) rfl (by rw [cpy_0, jup_id]) ?_ ?_
          · show jE _ _ 67 [some (.ref 98), some (.int (nI s)), some (.int (nI n)), some (.int (nI j)), some (.int ((soB (m 102) s n V P u).1)), some (.int (nI (soB (m 102) s n V P u).2.1)), some (.int (nI (soB (m 102) s n V P u).2.2)), some (.int (nI u)), some (.int (nI n)), none] [] (jup mm 109 (va_cpy (rwS n u) (mm 109) 0 0 n))
            obtain ⟨mr, hmr⟩ : ∃ y : jM, y = jup mm 109 (va_cpy (rwS n u) (mm 109) 0 0 n) := ⟨_, rfl⟩
            refine e_start rfl hmr.symm ?_
            refine e_iload dX4_song_67 rfl ?_
            refine e_iload_n dX4_song_69 rfl ?_
            refine e_icmp_ge 100 dX4_song_70 (by decide) (fun c70 => ?_) (fun h => absurd (j_done rfl rfl) h)
            have hmg : mm 109 = g := by rw [hI]; unfold smM; rw [jup_s]
            refine e_aload_n dX4_song_100 rfl ?_
            refine e_iload_n dX4_song_101 rfl ?_
            refine e_iload_n dX4_song_102 rfl ?_
            refine e_callVi (n := 2) mX4_singsRow [.int (nI s), .int (nI n)] dX4_song_103 ckX4_212 rfl (by decide +kernel) rfl rfl rfl rfl (Nat.le_of_ble_eq_true rfl) ⟨Nat.zero_le _, Nat.zero_le _⟩ (s_singsRow mr V hV (by rw [hmr, jup_n _ _ (by decide), g102]; exact h1) P hP (by rw [hmr, jup_n _ _ (by decide), g102]; exact h2) s hs n hn) (fun v103 ms hms => ?_)
            obtain ⟨hv1, f2, k2, hk2, hkn, hms⟩ := hms
            subst hv1
            have e109 : mr 109 = (va_cpy (rwS n u) g 0 0 n) := by rw [hmr, jup_s, hmg]
            have e102 : mr 102 = m 102 := by rw [hmr, jup_n _ _ (by decide), g102]
            have hrw : ∀ j, j < n → (va_cpy (rwS n u) g 0 0 n) j = (rwS n u) j := fun j hj => by unfold va_cpy; rw [if_pos (by omega), Nat.zero_add, Nat.sub_zero]
            have eC : sgC (mr 102) s (mr 109) V P n = sgC (m 102) s (rwS n u) V P n := by rw [e102, e109]; exact sgC_congr n hrw
            have es2 : ms 102 = sgS (m 102) s (rwS n u) V P k2 := by rw [← hms, jst_n _ _ _ (by decide), jup_s, e102, e109]; exact sgS_congr k2 (fun j hj => hrw j (by omega))
            have es21 : ms 98 21 = nI (sgN (rwS n u) k2) := by rw [← hms, jst_s, upd_s, e109, sgN_congr k2 (fun j hj => hrw j (by omega))]
            rw [eC]
            refine e_istore (L' := [some (.ref 98), some (.int (nI s)), some (.int (nI n)), some (.int (nI j)), some (.int ((soB (m 102) s n V P u).1)), some (.int (nI (soB (m 102) s n V P u).2.1)), some (.int (nI (soB (m 102) s n V P u).2.2)), some (.int (nI u)), some (.int (b01 (sgC (m 102) s (rwS n u) V P n))), none]) dX4_song_106 (Nat.le_of_ble_eq_true rfl) (Nat.le_of_ble_eq_true rfl) (jnl_at (i := 7) rfl) rfl ?_
            refine e_aload_n dX4_song_108 rfl ?_
            refine e_callVi (n := 0) mX4_setPans [] dX4_song_109 ckX4_167 rfl (by decide +kernel) rfl rfl rfl rfl (Nat.le_of_ble_eq_true rfl) ⟨Nat.zero_le _, Nat.zero_le _⟩ (s_setPans ms P hP (by rw [es2]; exact (sgS_lo hV (by omega) (by decide) _).trans h2)) (fun v109 m6 hm6 => ?_)
            obtain ⟨rfl, rfl⟩ := hm6
            rw [es2, setB_N P hP (sgS_01 hV hP h01 _)]
            refine e_callSi (n := 1) mX4_ones [.int (nI (setN (sgS (m 102) s (rwS n u) V P k2) P))] dX4_song_112 ckX4_202 rfl (by decide +kernel) rfl rfl (Nat.le_of_ble_eq_true rfl) ⟨Nat.zero_le _, Nat.zero_le _⟩ (s_ones ms (setN (sgS (m 102) s (rwS n u) V P k2) P) (set_256 hP)) (fun v112 m7 hm7 => ?_)
            obtain ⟨rfl, rfl⟩ := hm7
            refine e_istore (L' := [some (.ref 98), some (.int (nI s)), some (.int (nI n)), some (.int (nI j)), some (.int ((soB (m 102) s n V P u).1)), some (.int (nI (soB (m 102) s n V P u).2.1)), some (.int (nI (soB (m 102) s n V P u).2.2)), some (.int (nI u)), some (.int (b01 (sgC (m 102) s (rwS n u) V P n))), some (.int (nI (popc (setN (sgS (m 102) s (rwS n u) V P k2) P))))]) dX4_song_115 (Nat.le_of_ble_eq_true rfl) (Nat.le_of_ble_eq_true rfl) (jnl_at (i := 8) rfl) rfl ?_
            refine e_iload dX4_song_117 rfl ?_
            refine e_if_eq 159 dX4_song_119 (by decide) (fun c119 => ?_) (fun c119 => ?_)
            · have hcan : sgC (m 102) s (rwS n u) V P n = false := b01_f c119
              refine e_aload_n dX4_song_159 rfl ?_
              refine e_callVv (n := 0) mX4_takeBack [] dX4_song_160 ckX4_193 rfl (by decide +kernel) rfl rfl rfl rfl (Nat.le_of_ble_eq_true rfl) ⟨Nat.zero_le _, Nat.zero_le _⟩ (s_takeBack ms) (fun mt hmt => ?_)
              refine e_iinc (v := nI (u + 1)) (L' := [some (.ref 98), some (.int (nI s)), some (.int (nI n)), some (.int (nI j)), some (.int ((soB (m 102) s n V P u).1)), some (.int (nI (soB (m 102) s n V P u).2.1)), some (.int (nI (soB (m 102) s n V P u).2.2)), some (.int (nI (u + 1))), some (.int (b01 (sgC (m 102) s (rwS n u) V P n))), some (.int (nI (popc (setN (sgS (m 102) s (rwS n u) V P k2) P))))]) dX4_song_163 rfl (j_inc rfl) (by decide) (jnl_at (i := 6) rfl) rfl ?_
              refine e_goto 54 dX4_song_166 (by decide) ?_
              refine e_weak [some (.ref 98), some (.int (nI s)), some (.int (nI n)), some (.int (nI j)), some (.int ((soB (m 102) s n V P u).1)), some (.int (nI (soB (m 102) s n V P u).2.1)), some (.int (nI (soB (m 102) s n V P u).2.2)), some (.int (nI (u + 1))), none, none] (by simp [jle]) ?_
              have eB : (soB (m 102) s n V P (u + 1)) = soB (m 102) s n V P u := if_neg (fun z => by first | exact absurd z.1 (by rw [hcan]; decide) | exact z.2.elim c126 (fun z3 => c133 z3.1) | exact z.2.elim c126 (fun z3 => hfew z3.2))
              refine e_start (by simp only [eB]) rfl (ih (f2, nI (sgN (mr 109) k2), va_cpy (rwS n u) (mm 109) 0 0 n) mt ?_)
              show mt = smM m f2 (nI (sgN (mr 109) k2)) (va_cpy (rwS n u) (mm 109) 0 0 n)
              rw [← hmt, ← hms, hmr, hI]
              refine smM_step m f f2 x _ g _ _ (fun j hj => ?_)
              rw [sgS_hi hV hP hj, jup_n _ _ (by decide), smM_102]
            · have hcan : sgC (m 102) s (rwS n u) V P n = true := b01_t c119
              have hk := hkn (by rw [eC]; exact hcan)
              rw [hk] at es21
              rw [hk, show nI (popc (setN (sgS (m 102) s (rwS n u) V P n) P)) = soV (m 102) s n V P u from rfl]
              refine e_iload dX4_song_122 rfl ?_
              refine e_iload dX4_song_124 rfl ?_
              refine e_icmp_gt 145 dX4_song_126 (by decide) (fun c126 => ?_) (fun c126 => ?_)
              · refine e_iload dX4_song_145 rfl ?_
                refine e_istore (L' := [some (.ref 98), some (.int (nI s)), some (.int (nI n)), some (.int (nI j)), some (.int (soV (m 102) s n V P u)), some (.int (nI (soB (m 102) s n V P u).2.1)), some (.int (nI (soB (m 102) s n V P u).2.2)), some (.int (nI u)), some (.int (b01 (sgC (m 102) s (rwS n u) V P n))), some (.int (soV (m 102) s n V P u))]) dX4_song_147 (Nat.le_of_ble_eq_true rfl) (Nat.le_of_ble_eq_true rfl) (jnl_at (i := 3) rfl) rfl ?_
                refine e_aload_n dX4_song_149 rfl ?_
                refine e_getI dX4_song_150 lkX4_205 rfl rfl ?_
                rw [show ms 98 21 = nI (sgN (rwS n u) n) from es21]
                refine e_istore (L' := [some (.ref 98), some (.int (nI s)), some (.int (nI n)), some (.int (nI j)), some (.int (soV (m 102) s n V P u)), some (.int (nI (sgN (rwS n u) n))), some (.int (nI (soB (m 102) s n V P u).2.2)), some (.int (nI u)), some (.int (b01 (sgC (m 102) s (rwS n u) V P n))), some (.int (soV (m 102) s n V P u))]) dX4_song_153 (Nat.le_of_ble_eq_true rfl) (Nat.le_of_ble_eq_true rfl) (jnl_at (i := 4) rfl) rfl ?_
                refine e_iload dX4_song_155 rfl ?_
                refine e_istore (L' := [some (.ref 98), some (.int (nI s)), some (.int (nI n)), some (.int (nI j)), some (.int (soV (m 102) s n V P u)), some (.int (nI (sgN (rwS n u) n))), some (.int (nI u)), some (.int (nI u)), some (.int (b01 (sgC (m 102) s (rwS n u) V P n))), some (.int (soV (m 102) s n V P u))]) dX4_song_157 (Nat.le_of_ble_eq_true rfl) (Nat.le_of_ble_eq_true rfl) (jnl_at (i := 5) rfl) rfl ?_
                refine e_aload_n dX4_song_159 rfl ?_
                refine e_callVv (n := 0) mX4_takeBack [] dX4_song_160 ckX4_193 rfl (by decide +kernel) rfl rfl rfl rfl (Nat.le_of_ble_eq_true rfl) ⟨Nat.zero_le _, Nat.zero_le _⟩ (s_takeBack ms) (fun mt hmt => ?_)
                refine e_iinc (v := nI (u + 1)) (L' := [some (.ref 98), some (.int (nI s)), some (.int (nI n)), some (.int (nI j)), some (.int (soV (m 102) s n V P u)), some (.int (nI (sgN (rwS n u) n))), some (.int (nI u)), some (.int (nI (u + 1))), some (.int (b01 (sgC (m 102) s (rwS n u) V P n))), some (.int (soV (m 102) s n V P u))]) dX4_song_163 rfl (j_inc rfl) (by decide) (jnl_at (i := 6) rfl) rfl ?_
                refine e_goto 54 dX4_song_166 (by decide) ?_
                refine e_weak [some (.ref 98), some (.int (nI s)), some (.int (nI n)), some (.int (nI j)), some (.int (soV (m 102) s n V P u)), some (.int (nI (sgN (rwS n u) n))), some (.int (nI u)), some (.int (nI (u + 1))), none, none] (by simp [jle]) ?_
                have eB : (soB (m 102) s n V P (u + 1)) = (soV (m 102) s n V P u, sgN (rwS n u) n, u) := if_pos ⟨hcan, by first | exact Or.inl c126 | exact Or.inr ⟨c133, hfew⟩⟩
                refine e_start (by simp only [eB]) rfl (ih (f2, nI (sgN (mr 109) k2), va_cpy (rwS n u) (mm 109) 0 0 n) mt ?_)
                show mt = smM m f2 (nI (sgN (mr 109) k2)) (va_cpy (rwS n u) (mm 109) 0 0 n)
                rw [← hmt, ← hms, hmr, hI]
                refine smM_step m f f2 x _ g _ _ (fun j hj => ?_)
                rw [sgS_hi hV hP hj, jup_n _ _ (by decide), smM_102]
              · refine e_iload dX4_song_129 rfl ?_
                refine e_iload dX4_song_131 rfl ?_
                refine e_icmp_ne 159 dX4_song_133 (by decide) (fun c133 => ?_) (fun c133 => ?_)
                · refine e_aload_n dX4_song_159 rfl ?_
                  refine e_callVv (n := 0) mX4_takeBack [] dX4_song_160 ckX4_193 rfl (by decide +kernel) rfl rfl rfl rfl (Nat.le_of_ble_eq_true rfl) ⟨Nat.zero_le _, Nat.zero_le _⟩ (s_takeBack ms) (fun mt hmt => ?_)
                  refine e_iinc (v := nI (u + 1)) (L' := [some (.ref 98), some (.int (nI s)), some (.int (nI n)), some (.int (nI j)), some (.int ((soB (m 102) s n V P u).1)), some (.int (nI (soB (m 102) s n V P u).2.1)), some (.int (nI (soB (m 102) s n V P u).2.2)), some (.int (nI (u + 1))), some (.int (b01 (sgC (m 102) s (rwS n u) V P n))), some (.int (soV (m 102) s n V P u))]) dX4_song_163 rfl (j_inc rfl) (by decide) (jnl_at (i := 6) rfl) rfl ?_
                  refine e_goto 54 dX4_song_166 (by decide) ?_
                  refine e_weak [some (.ref 98), some (.int (nI s)), some (.int (nI n)), some (.int (nI j)), some (.int ((soB (m 102) s n V P u).1)), some (.int (nI (soB (m 102) s n V P u).2.1)), some (.int (nI (soB (m 102) s n V P u).2.2)), some (.int (nI (u + 1))), none, none] (by simp [jle]) ?_
                  have eB : (soB (m 102) s n V P (u + 1)) = soB (m 102) s n V P u := if_neg (fun z => by first | exact absurd z.1 (by rw [hcan]; decide) | exact z.2.elim c126 (fun z3 => c133 z3.1) | exact z.2.elim c126 (fun z3 => hfew z3.2))
                  refine e_start (by simp only [eB]) rfl (ih (f2, nI (sgN (mr 109) k2), va_cpy (rwS n u) (mm 109) 0 0 n) mt ?_)
                  show mt = smM m f2 (nI (sgN (mr 109) k2)) (va_cpy (rwS n u) (mm 109) 0 0 n)
                  rw [← hmt, ← hms, hmr, hI]
                  refine smM_step m f f2 x _ g _ _ (fun j hj => ?_)
                  rw [sgS_hi hV hP hj, jup_n _ _ (by decide), smM_102]
                · refine e_aload_n dX4_song_136 rfl ?_
                  refine e_getI dX4_song_137 lkX4_205 rfl rfl ?_
                  rw [show ms 98 21 = nI (sgN (rwS n u) n) from es21]
                  refine e_iload dX4_song_140 rfl ?_
                  refine e_icmp_ge 159 dX4_song_142 (by decide) (fun c142 => ?_) (fun c142 => ?_)
                  · have hfew : ¬ sgN (rwS n u) n < (soB (m 102) s n V P u).2.1 := fun z => absurd c142 (Int32.not_le.mpr ((j_lt (by have := sgN_le (rwS n u) n; omega) (by have := (soB_lt (st := m 102) (s := s) (n := n) (V := V) (P := P) u).1; omega)).mpr z))
                    refine e_aload_n dX4_song_159 rfl ?_
                    refine e_callVv (n := 0) mX4_takeBack [] dX4_song_160 ckX4_193 rfl (by decide +kernel) rfl rfl rfl rfl (Nat.le_of_ble_eq_true rfl) ⟨Nat.zero_le _, Nat.zero_le _⟩ (s_takeBack ms) (fun mt hmt => ?_)
                    refine e_iinc (v := nI (u + 1)) (L' := [some (.ref 98), some (.int (nI s)), some (.int (nI n)), some (.int (nI j)), some (.int ((soB (m 102) s n V P u).1)), some (.int (nI (soB (m 102) s n V P u).2.1)), some (.int (nI (soB (m 102) s n V P u).2.2)), some (.int (nI (u + 1))), some (.int (b01 (sgC (m 102) s (rwS n u) V P n))), some (.int (soV (m 102) s n V P u))]) dX4_song_163 rfl (j_inc rfl) (by decide) (jnl_at (i := 6) rfl) rfl ?_
                    refine e_goto 54 dX4_song_166 (by decide) ?_
                    refine e_weak [some (.ref 98), some (.int (nI s)), some (.int (nI n)), some (.int (nI j)), some (.int ((soB (m 102) s n V P u).1)), some (.int (nI (soB (m 102) s n V P u).2.1)), some (.int (nI (soB (m 102) s n V P u).2.2)), some (.int (nI (u + 1))), none, none] (by simp [jle]) ?_
                    have eB : (soB (m 102) s n V P (u + 1)) = soB (m 102) s n V P u := if_neg (fun z => by first | exact absurd z.1 (by rw [hcan]; decide) | exact z.2.elim c126 (fun z3 => c133 z3.1) | exact z.2.elim c126 (fun z3 => hfew z3.2))
                    refine e_start (by simp only [eB]) rfl (ih (f2, nI (sgN (mr 109) k2), va_cpy (rwS n u) (mm 109) 0 0 n) mt ?_)
                    show mt = smM m f2 (nI (sgN (mr 109) k2)) (va_cpy (rwS n u) (mm 109) 0 0 n)
                    rw [← hmt, ← hms, hmr, hI]
                    refine smM_step m f f2 x _ g _ _ (fun j hj => ?_)
                    rw [sgS_hi hV hP hj, jup_n _ _ (by decide), smM_102]
                  · have hfew : sgN (rwS n u) n < (soB (m 102) s n V P u).2.1 := (j_lt (by have := sgN_le (rwS n u) n; omega) (by have := (soB_lt (st := m 102) (s := s) (n := n) (V := V) (P := P) u).1; omega)).mp (Int32.not_le.mp c142)
                    refine e_iload dX4_song_145 rfl ?_
                    refine e_istore (L' := [some (.ref 98), some (.int (nI s)), some (.int (nI n)), some (.int (nI j)), some (.int (soV (m 102) s n V P u)), some (.int (nI (soB (m 102) s n V P u).2.1)), some (.int (nI (soB (m 102) s n V P u).2.2)), some (.int (nI u)), some (.int (b01 (sgC (m 102) s (rwS n u) V P n))), some (.int (soV (m 102) s n V P u))]) dX4_song_147 (Nat.le_of_ble_eq_true rfl) (Nat.le_of_ble_eq_true rfl) (jnl_at (i := 3) rfl) rfl ?_
                    refine e_aload_n dX4_song_149 rfl ?_
                    refine e_getI dX4_song_150 lkX4_205 rfl rfl ?_
                    rw [show ms 98 21 = nI (sgN (rwS n u) n) from es21]
                    refine e_istore (L' := [some (.ref 98), some (.int (nI s)), some (.int (nI n)), some (.int (nI j)), some (.int (soV (m 102) s n V P u)), some (.int (nI (sgN (rwS n u) n))), some (.int (nI (soB (m 102) s n V P u).2.2)), some (.int (nI u)), some (.int (b01 (sgC (m 102) s (rwS n u) V P n))), some (.int (soV (m 102) s n V P u))]) dX4_song_153 (Nat.le_of_ble_eq_true rfl) (Nat.le_of_ble_eq_true rfl) (jnl_at (i := 4) rfl) rfl ?_
                    refine e_iload dX4_song_155 rfl ?_
                    refine e_istore (L' := [some (.ref 98), some (.int (nI s)), some (.int (nI n)), some (.int (nI j)), some (.int (soV (m 102) s n V P u)), some (.int (nI (sgN (rwS n u) n))), some (.int (nI u)), some (.int (nI u)), some (.int (b01 (sgC (m 102) s (rwS n u) V P n))), some (.int (soV (m 102) s n V P u))]) dX4_song_157 (Nat.le_of_ble_eq_true rfl) (Nat.le_of_ble_eq_true rfl) (jnl_at (i := 5) rfl) rfl ?_
                    refine e_aload_n dX4_song_159 rfl ?_
                    refine e_callVv (n := 0) mX4_takeBack [] dX4_song_160 ckX4_193 rfl (by decide +kernel) rfl rfl rfl rfl (Nat.le_of_ble_eq_true rfl) ⟨Nat.zero_le _, Nat.zero_le _⟩ (s_takeBack ms) (fun mt hmt => ?_)
                    refine e_iinc (v := nI (u + 1)) (L' := [some (.ref 98), some (.int (nI s)), some (.int (nI n)), some (.int (nI j)), some (.int (soV (m 102) s n V P u)), some (.int (nI (sgN (rwS n u) n))), some (.int (nI u)), some (.int (nI (u + 1))), some (.int (b01 (sgC (m 102) s (rwS n u) V P n))), some (.int (soV (m 102) s n V P u))]) dX4_song_163 rfl (j_inc rfl) (by decide) (jnl_at (i := 6) rfl) rfl ?_
                    refine e_goto 54 dX4_song_166 (by decide) ?_
                    refine e_weak [some (.ref 98), some (.int (nI s)), some (.int (nI n)), some (.int (nI j)), some (.int (soV (m 102) s n V P u)), some (.int (nI (sgN (rwS n u) n))), some (.int (nI u)), some (.int (nI (u + 1))), none, none] (by simp [jle]) ?_
                    have eB : (soB (m 102) s n V P (u + 1)) = (soV (m 102) s n V P u, sgN (rwS n u) n, u) := if_pos ⟨hcan, by first | exact Or.inl c126 | exact Or.inr ⟨c133, hfew⟩⟩
                    refine e_start (by simp only [eB]) rfl (ih (f2, nI (sgN (mr 109) k2), va_cpy (rwS n u) (mm 109) 0 0 n) mt ?_)
                    show mt = smM m f2 (nI (sgN (mr 109) k2)) (va_cpy (rwS n u) (mm 109) 0 0 n)
                    rw [← hmt, ← hms, hmr, hI]
                    refine smM_step m f f2 x _ g _ _ (fun j hj => ?_)
                    rw [sgS_hi hV hP hj, jup_n _ _ (by decide), smM_102]
          · intro p hk2 ih2
            show jE _ _ 67 [some (.ref 98), some (.int (nI s)), some (.int (nI n)), some (.int (nI j)), some (.int ((soB (m 102) s n V P u).1)), some (.int (nI (soB (m 102) s n V P u).2.1)), some (.int (nI (soB (m 102) s n V P u).2.2)), some (.int (nI u)), some (.int (nI p)), none] [] (jup mm 109 (va_cpy (rwS n u) (mm 109) 0 0 p))
            obtain ⟨mb, hmb⟩ : ∃ y : jM, y = jup mm 109 (va_cpy (rwS n u) (mm 109) 0 0 p) := ⟨_, rfl⟩
            refine e_start rfl hmb.symm ?_
            refine e_iload dX4_song_67 rfl ?_
            refine e_iload_n dX4_song_69 rfl ?_
            refine e_icmp_ge 100 dX4_song_70 (by decide) (fun h => absurd h (j_more (N := n) rfl rfl (by omega) (by omega))) (fun c70 => ?_)
            refine e_aload_n dX4_song_73 rfl ?_
            refine e_getR (o := 11) (b := 109) dX4_song_74 lkX4_40 rfl rfl (by decide) rfl ?_
            refine e_iload dX4_song_77 rfl ?_
            refine e_iload dX4_song_79 rfl ?_
            refine e_iconst (v := 3) dX4_song_81 rfl ?_
            refine e_iload_n dX4_song_82 rfl ?_
            refine e_iconst (v := 1) dX4_song_83 rfl ?_
            refine e_isub dX4_song_84 ?_
            rw [show (nI n) - 1 = nI (n - 1) from pk_sub (a := n) (b := 1) (by omega)]
            refine e_iload dX4_song_85 rfl ?_
            refine e_isub dX4_song_87 ?_
            rw [show (nI (n - 1)) - (nI p) = nI (n - 1 - p) from pk_sub (by omega)]
            refine e_imul dX4_song_88 ?_
            rw [show 3 * (nI (n - 1 - p)) = nI (3 * (n - 1 - p)) from pk_mul 3 _]
            refine e_ishr dX4_song_89 ?_
            refine e_bipush (v := 7) dX4_song_90 rfl ?_
            refine e_iand dX4_song_92 ?_
            rw [show ((nI u) >>> ((nI (3 * (n - 1 - p))) &&& 31)) &&& 7 = nI (dgS n u p) from dg_ok n (by omega) p (by omega) u (by omega)]
            refine e_iast dX4_song_93 rfl p rfl (by omega) (by decide) (fun m13 hm13 => ?_)
            refine e_iinc (v := nI (p + 1)) (L' := [some (.ref 98), some (.int (nI s)), some (.int (nI n)), some (.int (nI j)), some (.int ((soB (m 102) s n V P u).1)), some (.int (nI (soB (m 102) s n V P u).2.1)), some (.int (nI (soB (m 102) s n V P u).2.2)), some (.int (nI u)), some (.int (nI (p + 1))), none]) dX4_song_94 rfl (j_inc rfl) (by decide) (jnl_at (i := 7) rfl) rfl ?_
            refine e_goto 67 dX4_song_97 (by decide) ?_
            refine e_start rfl ?_ ih2
            rw [hm13, hmb, jup_s, jup_jup]
            exact congrArg (jup mm 109) (cpy_s0' (by rw [Nat.zero_add]; rfl))
      · exact False.elim (q3 hkk)
    · exact False.elim (q2 (inN_nI (by decide) (by omega)))
  · exact False.elim (q6 (inN_nI (by omega) hs))
