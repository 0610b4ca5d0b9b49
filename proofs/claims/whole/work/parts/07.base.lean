/-! ===== the cells by families; small facts that the walks use ===== -/
def isK (c : Nat) : Prop := c = 20 ∨ c = 31 ∨ c = 43 ∨ c = 54
theorem isK.l0 {c : Nat} (h : isK c) : jlay c = (5, 0) := by rcases h with rfl | rfl | rfl | rfl <;> rfl
theorem isK.l1 {c : Nat} (h : isK c) : jlay (c + 1) = (0, 3) := by rcases h with rfl | rfl | rfl | rfl <;> rfl
theorem isK.l2 {c : Nat} (h : isK c) : jlay (c + 2) = (0, 3) := by rcases h with rfl | rfl | rfl | rfl <;> rfl
theorem isK.l3 {c : Nat} (h : isK c) : jlay (c + 3) = (0, 3) := by rcases h with rfl | rfl | rfl | rfl <;> rfl
theorem isK.l4 {c : Nat} (h : isK c) : jlay (c + 4) = (0, 5) := by rcases h with rfl | rfl | rfl | rfl <;> rfl
theorem isK.l5 {c : Nat} (h : isK c) : jlay (c + 5) = (0, 5) := by rcases h with rfl | rfl | rfl | rfl <;> rfl
theorem isK.l6 {c : Nat} (h : isK c) : jlay (c + 6) = (0, 5) := by rcases h with rfl | rfl | rfl | rfl <;> rfl
theorem isK.l7 {c : Nat} (h : isK c) : jlay (c + 7) = (0, 3) := by rcases h with rfl | rfl | rfl | rfl <;> rfl
theorem isK.l8 {c : Nat} (h : isK c) : jlay (c + 8) = (0, 5) := by rcases h with rfl | rfl | rfl | rfl <;> rfl
theorem isK.l9 {c : Nat} (h : isK c) : jlay (c + 9) = (0, 5) := by rcases h with rfl | rfl | rfl | rfl <;> rfl
theorem isK.l10 {c : Nat} (h : isK c) : jlay (c + 10) = (0, 5) := by rcases h with rfl | rfl | rfl | rfl <;> rfl
theorem isR_l (r : Nat) (h : r < 8) : jlay (2 + 2 * r) = (5, 1) := co_dec (P := fun r => jlay (2 + 2 * r) = (5, 1)) (by decide +kernel) h
theorem isR_i (r : Nat) (h : r < 8) : jlay (2 + 2 * r + 1) = (0, 40) := co_dec (P := fun r => jlay (2 + 2 * r + 1) = (0, 40)) (by decide +kernel) h
theorem isI_k (k : Nat) (h : k < 2) : isK (43 + 11 * k) := by
  have : k = 0 ∨ k = 1 := by omega
  rcases this with rfl | rfl
  · exact Or.inr (Or.inr (Or.inl rfl))
  · exact Or.inr (Or.inr (Or.inr rfl))
theorem isA_l (k : Nat) (h : k < 24) : jlay (66 + k) = (0, 19) := co_dec (P := fun r => jlay (66 + r) = (0, 19)) (by decide +kernel) h
theorem isB_l (k : Nat) (h : k < 4) : jlay (93 + k) = (0, 19) := co_dec (P := fun r => jlay (93 + r) = (0, 19)) (by decide +kernel) h
theorem jtg_1 (j : Nat) : jtg 1 j = 2 + 2 * j := rfl
theorem j_add {x y : Int32} {a b : Nat} (hx : x = nI a) (hy : y = nI b) : x + y = nI (a + b) := by rw [hx, hy]; exact nI_add a b
theorem j_mul {x y : Int32} {a b : Nat} (hx : x = nI a) (hy : y = nI b) : x * y = nI (a * b) := by rw [hx, hy]; exact pk_mul a b
theorem j_sub {x y : Int32} {a b : Nat} (hx : x = nI a) (hy : y = nI b) (h : b ≤ a) : x - y = nI (a - b) := by rw [hx, hy]; exact pk_sub h
theorem j_inc {x : Int32} {a : Nat} (hx : x = nI a) : x + Int32.ofInt 1 = nI (a + 1) := by rw [hx]; exact nI_1 a
theorem jnl_at {L : List (Option Value)} {i : Nat} (h : jnl (L[i]?.getD none) = true) : ∀ j, j + 1 = i + 1 → jnl (L[j]?.getD none) = true := fun j hj => by
  obtain rfl : j = i := by omega
  exact h
theorem j_lt {a b : Nat} (ha : a < 2 ^ 31) (hb : b < 2 ^ 31) : nI a < nI b ↔ a < b := nI_ltI ha hb
theorem j_le {a b : Nat} (ha : a < 2 ^ 31) (hb : b < 2 ^ 31) : nI a ≤ nI b ↔ a ≤ b := nI_leI ha hb
theorem j_eq {a b : Nat} (ha : a < 2 ^ 31) (hb : b < 2 ^ 31) : nI a = nI b ↔ a = b := nI_eq ha hb
/-- the numbers below a bound are small naturals -/
theorem j_small {x : Int32} (h0 : ¬ x < 0) {n : Nat} (hn : n < 2 ^ 31) (h1 : x < nI n) : ∃ k : Nat, k < n ∧ x = nI k := by
  obtain ⟨k, hk, rfl⟩ := nI_of h0
  exact ⟨k, (j_lt hk hn).mp h1, rfl⟩
/-- a place c, j becomes x -/
abbrev jst (m : jM) (c j : Nat) (x : Int32) : jM := jup m c (upd (m c) j x)
/-- a boolean's answer -/
def isB (v : Int32) (P : Prop) : Prop := v = 1 ∧ P ∨ v = 0 ∧ ¬ P
theorem isB.v01 {v : Int32} {P : Prop} (h : isB v P) : v = 0 ∨ v = 1 := by rcases h with ⟨rfl, -⟩ | ⟨rfl, -⟩ <;> decide
theorem isB.iff {v : Int32} {P Q : Prop} (h : isB v P) (e : P ↔ Q) : isB v Q := by rcases h with ⟨h1, h2⟩ | ⟨h1, h2⟩; exact Or.inl ⟨h1, e.mp h2⟩; exact Or.inr ⟨h1, fun q => h2 (e.mpr q)⟩
theorem isB.t {P : Prop} (h : P) : isB 1 P := Or.inl ⟨rfl, h⟩
theorem isB.f {P : Prop} (h : ¬ P) : isB 0 P := Or.inr ⟨rfl, h⟩
/-- a loop whose state at the turn k is known -/
theorem e_loop {B : jMode} {M : jMeth} {S : List Value} (head N : Nat) (Lk : Nat → List (Option Value)) (mk : Nat → jM) (k0 : Nat) (hk : k0 ≤ N) {L : List (Option Value)} {m : jM} (hL : Lk k0 = L) (hm : mk k0 = m) (hx : jE B M head (Lk N) S (mk N)) (hs : ∀ k, k < N → jE B M head (Lk (k + 1)) S (mk (k + 1)) → jE B M head (Lk k) S (mk k)) : jE B M head L S m := by
  subst hL hm
  have key : ∀ j k, k + j = N → jE B M head (Lk k) S (mk k) := by
    intro j
    induction j with
    | zero => intro k h; obtain rfl : k = N := h; exact hx
    | succ j ih => intro k h; exact hs k (by omega) (ih (k + 1) (by omega))
  exact key (N - k0) k0 (by omega)
/-- a loop with an invariant, over a state of its own -/
theorem e_loopS {σ : Type} {B : jMode} {M : jMeth} {S : List Value} (head N : Nat) (Lk : Nat → σ → List (Option Value)) (Inv : Nat → σ → jM → Prop) (k0 : Nat) (s0 : σ) (hk : k0 ≤ N) {L : List (Option Value)} {m : jM} (hL : Lk k0 s0 = L) (hI : Inv k0 s0 m) (hx : ∀ (s : σ) (m : jM), Inv N s m → jE B M head (Lk N s) S m) (hs : ∀ k, k < N → ∀ (s : σ) (m : jM), Inv k s m → (∀ (s' : σ) (m' : jM), Inv (k + 1) s' m' → jE B M head (Lk (k + 1) s') S m') → jE B M head (Lk k s) S m) : jE B M head L S m := by
  subst hL
  have key : ∀ j k, k + j = N → ∀ (s : σ) (m : jM), Inv k s m → jE B M head (Lk k s) S m := by
    intro j
    induction j with
    | zero => intro k h; obtain rfl : k = N := h; exact hx
    | succ j ih => intro k h s m hI; exact hs k (by omega) s m hI (ih (k + 1) (by omega))
  exact key (N - k0) k0 (by omega) s0 m hI
/-- a loop that ends when a measure falls -/
theorem e_loopM {σ : Type} {B : jMode} {M : jMeth} {S : List Value} (head : Nat) (Ls : σ → List (Option Value)) (Inv : σ → jM → Prop) (μ : σ → Nat) (s0 : σ) {L : List (Option Value)} {m : jM} (hL : Ls s0 = L) (hI : Inv s0 m) (hs : ∀ (s : σ) (m : jM), Inv s m → (∀ (s' : σ) (m' : jM), μ s' < μ s → Inv s' m' → jE B M head (Ls s') S m') → jE B M head (Ls s) S m) : jE B M head L S m := by
  subst hL
  have key : ∀ n (s : σ) (m : jM), μ s < n → Inv s m → jE B M head (Ls s) S m := by
    intro n
    induction n with
    | zero => intro s m h; omega
    | succ n ih => intro s m h hI; exact hs s m hI (fun s' m' h' hI' => ih s' m' (by omega) hI')
  exact key (μ s0 + 1) s0 m (by omega) hI
theorem e_start {B : jMode} {M : jMeth} {pc : Nat} {L L' : List (Option Value)} {S : List Value} {m m' : jM} (hL : L = L') (hm : m = m') (k : jE B M pc L' S m') : jE B M pc L S m := by subst hL hm; exact k
theorem cpy_0 {f g : Nat → Int32} {sp dp : Nat} : va_cpy f g sp dp 0 = g := by
  funext j
  unfold va_cpy
  rw [if_neg (by omega)]
theorem cpy_s {f g : Nat → Int32} {sp dp k : Nat} : upd (va_cpy f g sp dp k) (dp + k) (f (sp + k)) = va_cpy f g sp dp (k + 1) := by
  funext j
  unfold va_cpy upd
  by_cases h : j = dp + k
  · subst h
    rw [if_pos rfl, if_pos (by omega)]
    congr 1
    omega
  · rw [if_neg h]
    show (if dp ≤ j ∧ j < dp + k then f (sp + (j - dp)) else g j) = _
    by_cases h2 : dp ≤ j ∧ j < dp + k
    · rw [if_pos h2, if_pos (by omega)]
    · rw [if_neg h2, if_neg (by omega)]
theorem jup_id (m : jM) (c : Nat) : jup m c (m c) = m := by
  funext a
  unfold jup
  by_cases h : a = c
  · rw [if_pos h, h]
  · rw [if_neg h]
theorem jup_jup (m : jM) (c : Nat) (f g : Nat → Int32) : jup (jup m c f) c g = jup m c g := by
  funext a
  unfold jup
  by_cases h : a = c
  · rw [if_pos h, if_pos h]
  · rw [if_neg h, if_neg h, if_neg h]
theorem jup_cm (m : jM) {c d : Nat} (h : c ≠ d) (f g : Nat → Int32) : jup (jup m c f) d g = jup (jup m d g) c f := by
  funext a
  unfold jup
  by_cases h1 : a = d
  · have h2 : a ≠ c := fun e => h (e.symm.trans h1)
    rw [if_pos h1, if_neg h2, if_pos h1]
  · rw [if_neg h1]
    by_cases h2 : a = c
    · rw [if_pos h2, if_pos h2]
    · rw [if_neg h2, if_neg h2, if_neg h1]
theorem j_nlt {a b : Int32} (h : ¬ a < b) : b ≤ a := Int32.not_lt.mp h
theorem j_nle {a b : Int32} (h : ¬ a ≤ b) : b < a := Int32.not_le.mp h
theorem lg_lt (x y : Int64) : lg_cmp x y < 0 ↔ x < y := by
  unfold lg_cmp
  by_cases h : x > y
  · rw [if_pos h]
    have h' : y < x := h
    exact ⟨fun q => absurd q (by decide), fun q => absurd h' (Int64.lt_asymm q)⟩
  · rw [if_neg h]
    by_cases e : x = y
    · rw [if_pos e]
      exact ⟨fun q => absurd q (by decide), fun q => absurd q (by rw [e]; exact Int64.lt_irrefl)⟩
    · rw [if_neg e]
      exact ⟨fun _ => by rw [Int64.lt_iff_toInt_lt]; have := mt Int64.toInt_inj.mp e; have := mt Int64.lt_iff_toInt_lt.mpr h; omega, fun _ => by decide⟩
theorem lg_gt (x y : Int64) : 0 < lg_cmp x y ↔ y < x := by
  unfold lg_cmp
  by_cases h : x > y
  · rw [if_pos h]
    exact ⟨fun _ => h, fun _ => by decide⟩
  · rw [if_neg h]
    by_cases e : x = y
    · rw [if_pos e]
      exact ⟨fun q => absurd q (by decide), fun q => absurd q h⟩
    · rw [if_neg e]
      exact ⟨fun q => absurd q (by decide), fun q => absurd q h⟩
theorem j_wle (a b : Int32) : a.toInt64 ≤ b.toInt64 ↔ a ≤ b := by
  rw [Int64.le_iff_toInt_le, Int32.le_iff_toInt_le, Int32.toInt_toInt64, Int32.toInt_toInt64]
theorem j_more {x y : Int32} {k N : Nat} (hx : x = nI k) (hy : y = nI N) (h : k < N) (hN : N < 2 ^ 31) : ¬ y ≤ x := by rw [hx, hy]; exact Int32.not_le.mpr ((j_lt (by omega) hN).mpr h)
theorem j_done {x y : Int32} {N : Nat} (hx : x = nI N) (hy : y = nI N) : y ≤ x := by rw [hx, hy]; exact Int32.le_refl _
theorem cpy_s0 {f g : Nat → Int32} {k : Nat} : upd (va_cpy f g 0 0 k) k (f k) = va_cpy f g 0 0 (k + 1) := by
  have h := @cpy_s f g 0 0 k
  rwa [Nat.zero_add] at h
theorem cpy_sd {f g : Nat → Int32} {sp dp k : Nat} {x : Int32} (hx : x = f (sp + k)) : upd (va_cpy f g sp dp k) (dp + k) x = va_cpy f g sp dp (k + 1) := by rw [hx]; exact cpy_s
theorem cpy_s0' {f g : Nat → Int32} {sp k : Nat} {x : Int32} (hx : x = f (sp + k)) : upd (va_cpy f g sp 0 k) k x = va_cpy f g sp 0 (k + 1) := by
  have h := @cpy_sd f g sp 0 k x hx
  rwa [Nat.zero_add] at h
theorem j_ltn (a b : Int32) : (a < b) = ¬ b ≤ a := propext (Int32.not_le.symm)
theorem upd_upd (f : Nat → Int32) (k : Nat) (x y : Int32) : upd (upd f k x) k y = upd f k y := by
  funext j
  unfold upd
  by_cases h : j = k
  · rw [if_pos h, if_pos h]
  · rw [if_neg h, if_neg h, if_neg h]
theorem jst_jup (m : jM) {c d : Nat} (h : c ≠ d) (j : Nat) (f : Nat → Int32) (x y : Int32) : jst (jup (jst m c j x) d f) c j y = jst (jup m d f) c j y := by
  show jup (jup (jup m c (upd (m c) j x)) d f) c (upd (jup (jup m c (upd (m c) j x)) d f c) j y) = jup (jup m d f) c (upd (jup m d f c) j y)
  rw [jup_n _ _ h, jup_n _ _ h, jup_s, upd_upd, jup_cm m h, jup_jup]
/-- fewer known locals -/
def jle : List (Option Value) → List (Option Value) → Prop
  | [], _ => True
  | none :: a, _ :: b => jle a b
  | none :: a, [] => jle a []
  | some v :: a, w :: b => w = some v ∧ jle a b
  | some _ :: _, [] => False
theorem jle_get : ∀ (a b : List (Option Value)), jle a b → ∀ (i : Nat) (v : Value), a[i]? = some (some v) → b[i]? = some (some v)
  | [], _, _, i, v, h => by simp at h
  | none :: a, [], hl, i, v, h => by
    match i, h with
    | 0, h => cases h
    | i + 1, h => exact absurd (jle_get a [] hl i v (by simpa using h)) (by simp)
  | none :: a, _ :: b, hl, i, v, h => by
    match i, h with
    | 0, h => cases h
    | i + 1, h => simpa using jle_get a b hl i v (by simpa using h)
  | some u :: a, w :: b, hl, i, v, h => by
    match i, h with
    | 0, h => cases h; simpa using hl.1
    | i + 1, h => simpa using jle_get a b hl.2 i v (by simpa using h)
  | some _ :: _, [], hl, _, _, _ => hl.elim
theorem e_weak {B : jMode} {M : jMeth} {pc : Nat} {L : List (Option Value)} (L' : List (Option Value)) {S : List Value} {m : jM} (h : jle L' L) (k : jE B M pc L' S m) : jE B M pc L S m := by
  intro p l e G A s mth args below meth c C X H locs ls hl hP hS
  exact k p l e G A s mth args below meth c C X H locs ls ⟨hl.1, hl.2.1, fun i v hv => hl.2.2 i v (jle_get _ _ h i v hv)⟩ hP hS
