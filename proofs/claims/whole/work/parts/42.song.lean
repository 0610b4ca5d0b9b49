/-! ===== the class: songs ===== -/
theorem e_stk {B : jMode} {M : jMeth} {pc : Nat} {L : List (Option Value)} {S S' : List Value} {m : jM} (h : S = S') (k : jE B M pc L S' m) : jE B M pc L S m := by subst h; exact k
/-- how many notes a song's bars share with those ahead of it -/
def alk (n r : Nat) : Nat := if r = 0 then 0 else n - 1 - ntz 12 r / 3
/-- the next song that is tried, where the bar c cannot be sung, or all can -/
def nxt (n c r : Nat) : Nat := if c = n then r + 1 else (r / 8 ^ (n - 1 - c) + 1) * 8 ^ (n - 1 - c)
def nxtOK (n c r : Nat) : Bool := decide (r < nxt n c r) && decide (nxt n c r ≤ 8 ^ n) && (decide (8 ^ n ≤ nxt n c r) || (decide (alk n (nxt n c r) ≤ c) && decide (alk n (nxt n c r) < n ∨ n = 0) && (List.range (alk n (nxt n c r))).all (fun p => decide (dgS n (nxt n c r) p = dgS n r p))))
theorem nxt_ok : ∀ n, n < 5 → ∀ c, c ≤ n → ∀ r, r < 8 ^ n → nxtOK n c r = true := by
  intro n hn c hc r hr
  have key : ∀ n, (List.range (n + 1)).all (fun c => (List.range (8 ^ n)).all (fun r => nxtOK n c r)) = true → ∀ c, c ≤ n → ∀ r, r < 8 ^ n → nxtOK n c r = true := fun n h c hc r hr =>
    List.all_eq_true.mp (List.all_eq_true.mp h c (List.mem_range.mpr (by omega))) r (List.mem_range.mpr hr)
  have : n = 0 ∨ n = 1 ∨ n = 2 ∨ n = 3 ∨ n = 4 := by omega
  rcases this with rfl | rfl | rfl | rfl | rfl
  · exact key 0 (by decide +kernel) c hc r hr
  · exact key 1 (by decide +kernel) c hc r hr
  · exact key 2 (by decide +kernel) c hc r hr
  · exact key 3 (by decide +kernel) c hc r hr
  · exact key 4 (by decide +kernel) c hc r hr
theorem nxt_all {n c r : Nat} (hn : n ≤ 4) (hc : c ≤ n) (hr : r < 8 ^ n) : r < nxt n c r ∧ nxt n c r ≤ 8 ^ n ∧ (nxt n c r < 8 ^ n → alk n (nxt n c r) ≤ c ∧ (alk n (nxt n c r) < n ∨ n = 0) ∧ ∀ p, p < alk n (nxt n c r) → dgS n (nxt n c r) p = dgS n r p) := by
  have h := nxt_ok n (by omega) c hc r hr
  unfold nxtOK at h
  rw [Bool.and_eq_true, Bool.and_eq_true] at h
  refine ⟨of_decide_eq_true h.1.1, of_decide_eq_true h.1.2, fun hl => ?_⟩
  rcases Bool.or_eq_true_iff.mp h.2 with h2 | h2
  · have := of_decide_eq_true h2
    omega
  · rw [Bool.and_eq_true, Bool.and_eq_true] at h2
    exact ⟨of_decide_eq_true h2.1.1, of_decide_eq_true h2.1.2, fun p hp => of_decide_eq_true (List.all_eq_true.mp h2.2 p (List.mem_range.mpr hp))⟩
theorem nxt_I : ∀ n, n < 5 → ∀ c, c < n → ∀ r, r < 8 ^ n → ((nI r >>> (nI (3 * (n - 1 - c)) &&& 31)) + 1) <<< (nI (3 * (n - 1 - c)) &&& 31) = nI (nxt n c r) := by
  intro n hn c hc r hr
  have key : ∀ n, (List.range n).all (fun c => (List.range (8 ^ n)).all (fun r => decide (((nI r >>> (nI (3 * (n - 1 - c)) &&& 31)) + 1) <<< (nI (3 * (n - 1 - c)) &&& 31) = nI (nxt n c r)))) = true → ∀ c, c < n → ∀ r, r < 8 ^ n → ((nI r >>> (nI (3 * (n - 1 - c)) &&& 31)) + 1) <<< (nI (3 * (n - 1 - c)) &&& 31) = nI (nxt n c r) := fun n h c hc r hr =>
    of_decide_eq_true (List.all_eq_true.mp (List.all_eq_true.mp h c (List.mem_range.mpr hc)) r (List.mem_range.mpr hr))
  have : n = 0 ∨ n = 1 ∨ n = 2 ∨ n = 3 ∨ n = 4 := by omega
  rcases this with rfl | rfl | rfl | rfl | rfl
  · omega
  · exact key 1 (by decide +kernel) c hc r hr
  · exact key 2 (by decide +kernel) c hc r hr
  · exact key 3 (by decide +kernel) c hc r hr
  · exact key 4 (by decide +kernel) c hc r hr
theorem alk_ok : ∀ n, n < 5 → ∀ r, r < 8 ^ n → r ≠ 0 → ntz 12 r / 3 ≤ n - 1 := by
  intro n hn r hr
  have key : ∀ n, (List.range (8 ^ n)).all (fun r => decide (r ≠ 0 → ntz 12 r / 3 ≤ n - 1)) = true → ∀ r, r < 8 ^ n → r ≠ 0 → ntz 12 r / 3 ≤ n - 1 := fun n h r hr =>
    of_decide_eq_true (List.all_eq_true.mp h r (List.mem_range.mpr hr))
  have : n = 0 ∨ n = 1 ∨ n = 2 ∨ n = 3 ∨ n = 4 := by omega
  rcases this with rfl | rfl | rfl | rfl | rfl
  · exact key 0 (by decide +kernel) r hr
  · exact key 1 (by decide +kernel) r hr
  · exact key 2 (by decide +kernel) r hr
  · exact key 3 (by decide +kernel) r hr
  · exact key 4 (by decide +kernel) r hr
theorem alk_le (n r : Nat) : alk n r ≤ n - 1 := by unfold alk; split <;> omega
theorem ntz_le : ∀ r, r < 4096 → ntz 12 r ≤ 12 := fun r h => co_dec (P := fun r => ntz 12 r ≤ 12) (by decide +kernel) h
theorem dgS_lt (n r p : Nat) : dgS n r p < 8 := Nat.mod_lt _ (by decide)
/-- what songs of one beginning share -/
theorem dgS_skip {n c r q : Nat} (hc : c < n) (h1 : r ≤ q) (h2 : q < nxt n c r) : ∀ p, p ≤ c → dgS n q p = dgS n r p := by
  intro p hp
  unfold nxt at h2
  rw [if_neg (by omega)] at h2
  have e : q / 8 ^ (n - 1 - c) = r / 8 ^ (n - 1 - c) := by
    have hl : q / 8 ^ (n - 1 - c) < r / 8 ^ (n - 1 - c) + 1 := (Nat.div_lt_iff_lt_mul (Nat.pow_pos (by decide))).mpr h2
    have hg := Nat.div_le_div_right (c := 8 ^ (n - 1 - c)) h1
    omega
  unfold dgS
  have hx : n - 1 - p = (n - 1 - c) + (c - p) := by omega
  rw [hx, Nat.pow_add, ← Nat.div_div_eq_div_mul, ← Nat.div_div_eq_div_mul, e]
theorem rwS_skip {n c r q : Nat} (hc : c < n) (h1 : r ≤ q) (h2 : q < nxt n c r) : ∀ p, p < c + 1 → rwS n q p = rwS n r p := fun p hp => congrArg nI (dgS_skip hc h1 h2 p (by omega))
theorem soB_skip {st : Nat → Int32} {s n V P c r : Nat} (hc : c < n) (hno : sgC st s (rwS n r) V P (c + 1) = false) : ∀ d, r + d ≤ nxt n c r → soB st s n V P (r + d) = soB st s n V P r
  | 0, _ => rfl
  | d + 1, h => by
    have ih := soB_skip (st := st) (V := V) (P := P) hc hno d (by omega)
    rw [← ih]
    have h1 : sgC st s (rwS n (r + d)) V P (c + 1) = false := by
      rw [sgC_congr (c + 1) (rwS_skip hc (by omega) (by omega : r + d < nxt n c r))]
      exact hno
    have h2 := sgC_mono h1 n (by omega)
    exact if_neg (fun z => by
      have z1 : sgC st s (rwS n (r + d)) V P n = true := z.1
      rw [h2] at z1
      exact absurd z1 (by decide))
theorem WK.song {st rw : Nat → Int32} {s V P : Nat} (h : WK st V P) (hr : ∀ j, ∃ a, a < 8 ∧ rw j = nI a) : ∀ k, WK (sgS st s rw V P k) V P
  | 0 => h
  | k + 1 => (WK.song h hr k).one fun j _ => by
    unfold ntS
    split
    · exact hr k
    · exact ⟨7, by decide, rfl⟩
theorem rwS_ok (n r : Nat) : ∀ j, ∃ a, a < 8 ∧ rwS n r j = nI a := fun j => ⟨dgS n r j, dgS_lt n r j, rfl⟩
/-- the trial's kitchen is the kitchen's own, at some time -/
def TK (m : jM) (st : Nat → Int32) (V P : Nat) : Prop := ∃ cur, RK m 31 cur V P ∧ SS st cur
theorem sgS_SS {st rw : Nat → Int32} {s V P : Nat} (hV : V ≤ 3) (k : Nat) : SS st (sgS st s rw V P k) := fun i hi => sgS_lo hV (by omega) (by omega) k
theorem SS.bt {a b c : Nat → Int32} (h : SS a b) (h2 : SS a c) : SS b c := fun i hi => (h2 i hi).trans (h i hi).symm
theorem sgS_pre {st : Nat → Int32} {s n q r V P b : Nat} (h : ∀ p, p < b → dgS n q p = dgS n r p) : sgS st s (rwS n q) V P b = sgS st s (rwS n r) V P b := sgS_congr b (fun p hp => congrArg nI (h p hp))
theorem sgC_pre {st : Nat → Int32} {s n q r V P b : Nat} (h : ∀ p, p < b → dgS n q p = dgS n r p) : sgC st s (rwS n q) V P b = sgC st s (rwS n r) V P b := sgC_congr b (fun p hp => congrArg nI (h p hp))
theorem sgC_le {st : Nat → Int32} {s : Nat} {rw : Nat → Int32} {V P k : Nat} (h : sgC st s rw V P k = true) : ∀ b, b ≤ k → sgC st s rw V P b = true := fun b hb => by
  rcases Bool.eq_false_or_eq_true (sgC st s rw V P b) with q | q
  · exact q
  · have := sgC_mono q k hb
    rw [h] at this
    exact absurd this (by decide)
theorem soV_pos {st : Nat → Int32} {s n V P r : Nat} : 0 ≤ soV st s n V P r := nI_pos' (by have := popc_le (setN (sgS st s (rwS n r) V P n) P); omega)
/-- all rests can be sung -/
theorem dgS_last : ∀ n, n < 5 → ∀ p, p < n → dgS n (8 ^ n - 1) p = 7 := by
  intro n hn p hp
  have h : (List.range 5).all (fun n => (List.range n).all (fun p => decide (dgS n (8 ^ n - 1) p = 7))) = true := by decide +kernel
  exact of_decide_eq_true (List.all_eq_true.mp (List.all_eq_true.mp h n (List.mem_range.mpr hn)) p (List.mem_range.mpr hp))
theorem sgC_rest {st : Nat → Int32} {s n V P r : Nat} (h : ∀ p, p < n → dgS n r p = 7) : ∀ k, k ≤ n → sgC st s (rwS n r) V P k = true
  | 0, _ => rfl
  | k + 1, hk => by
    show (_ && _) = true
    rw [sgC_rest h k (by omega), show rwS n r k = 7 from congrArg nI (h k (by omega)), canB_7]
    rfl
theorem soB_end {st : Nat → Int32} {s n V P : Nat} (hn : n ≤ 4) : 0 ≤ (soB st s n V P (8 ^ n)).1 := by
  obtain ⟨R, hR⟩ : ∃ R, 8 ^ n = R + 1 := ⟨8 ^ n - 1, by have : 0 < 8 ^ n := Nat.pow_pos (by decide); omega⟩
  have hC : sgC st s (rwS n R) V P n = true := sgC_rest (fun p hp => by rw [show R = 8 ^ n - 1 by omega]; exact dgS_last n (by omega) p hp) n (Nat.le_refl n)
  rw [hR]
  show 0 ≤ (if _ then _ else _ : Int32 × Nat × Nat).1
  by_cases c : sgC st s (rwS n R) V P n = true ∧ ((soB st s n V P R).1 < soV st s n V P R ∨ (soV st s n V P R = (soB st s n V P R).1 ∧ sgN (rwS n R) n < (soB st s n V P R).2.1))
  · rw [if_pos c]; exact soV_pos
  · rw [if_neg c]
    exact Int32.le_trans soV_pos (Int32.not_lt.mp (fun z => c ⟨hC, Or.inl z⟩))
