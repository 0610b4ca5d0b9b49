/-! ===== the class: what is foretold, whole calls ===== -/
theorem iX_mono {M : jMeth} {as : List Value} {m : jM} {Q Q' : Int32 → jM → Prop} (h : iX M as m Q) (hp : ∀ v m1, Q v m1 → Q' v m1) : iX M as m Q' := fun l G => by
  refine MetFree.mono (h l G) (fun _ _ q => q) (fun _ _ _ _ _ q => q) (fun a s o t _ q => ?_)
  obtain ⟨⟨⟨r, m', ⟨v, e1, e2⟩, e3, e4⟩, e5⟩, e6⟩ := q
  exact ⟨⟨⟨r, m', ⟨v, e1, hp v m' e2⟩, e3, e4⟩, e5⟩, e6⟩
theorem vX_mono {M : jMeth} {as : List Value} {m : jM} {Q Q' : jM → Prop} (h : vX M as m Q) (hp : ∀ m1, Q m1 → Q' m1) : vX M as m Q' := fun l G => by
  refine MetFree.mono (h l G) (fun _ _ q => q) (fun _ _ _ _ _ q => q) (fun a s o t _ q => ?_)
  obtain ⟨⟨⟨r, m', ⟨e1, e2⟩, e3, e4⟩, e5⟩, e6⟩ := q
  exact ⟨⟨⟨r, m', ⟨e1, hp m' e2⟩, e3, e4⟩, e5⟩, e6⟩
/-- what a call that only asks changes: what it works with -/
def SQ (m m1 : jM) : Prop := (∀ c, c ≠ 0 → c ≠ 90 → c ≠ 91 → (c < 31 ∨ 41 < c) → (c < 93 ∨ 96 < c) → m1 c = m c) ∧ ∀ f, f ≠ 11 → f ≠ 12 → f ≠ 13 → f ≠ 17 → m1 0 f = m 0 f
theorem SQ.rf {m : jM} : SQ m m := ⟨fun _ _ _ _ _ _ => rfl, fun _ _ _ _ _ => rfl⟩
theorem SQ.tr {m m1 m2 : jM} (h : SQ m m1) (h2 : SQ m1 m2) : SQ m m2 := ⟨fun c a b d e f => (h2.1 c a b d e f).trans (h.1 c a b d e f), fun f a b c d => (h2.2 f a b c d).trans (h.2 f a b c d)⟩
theorem SQ.p (m : jM) (f : Nat → Int32) : SQ m (jup m 91 f) := ⟨fun _ _ _ a _ _ => jup_n _ _ a, fun _ _ _ _ _ => by rw [jup_n _ _ (by decide)]⟩
theorem SQ.v (m : jM) (f : Nat → Int32) : SQ m (jup m 90 f) := ⟨fun _ _ a _ _ _ => jup_n _ _ a, fun _ _ _ _ _ => by rw [jup_n _ _ (by decide)]⟩
theorem SQ.k {m m1 : jM} (h : ∀ c, c < 31 ∨ 41 < c → m1 c = m c) : SQ m m1 := ⟨fun c _ _ _ a _ => h c a, fun _ _ _ _ _ => by rw [h 0 (by omega)]⟩
theorem SQ.b {m m1 : jM} (h : ∀ c, c < 93 ∨ 96 < c → m1 c = m c) : SQ m m1 := ⟨fun c _ _ _ _ a => h c a, fun _ _ _ _ _ => by rw [h 0 (by omega)]⟩
theorem SQ.tf {m m1 : jM} (h : TF 31 m m1) : SQ m m1 := ⟨fun c _ a _ b _ => h.1 c a b, fun _ _ _ _ _ => by rw [h.1 0 (by decide) (by omega)]⟩
theorem SQ.kf {m m1 : jM} (h : KF 31 m m1) : SQ m m1 := SQ.tf h.tf
theorem SQ.s (m : jM) (x : Int32) : SQ m (jup m 0 (upd (m 0) 17 x)) := ⟨fun c a _ _ _ _ => jup_n _ _ a, fun f _ _ _ a => by rw [jup_s, upd_n _ _ a]⟩
theorem SQ.rk {m m1 : jM} {st : Nat → Int32} {V P : Nat} (h : SQ m m1) (hR : RK m 20 st V P) : RK m1 20 st V P := hR.fr (fun c a b => h.1 c (by omega) (by omega) (by omega) (by omega) (by omega))
theorem SQ.c {m m1 : jM} (h : SQ m m1) (c : Nat) (hc : c ≠ 0) (hc2 : c < 31) : m1 c = m c := h.1 c hc (by omega) (by omega) (by omega) (by omega)
theorem aloneB_congr {st f g : Nat → Int32} {s : Nat} {c : Int32} {V P : Nat} : ∀ k, (∀ j, j < k → f j = g j) → aloneB st s f c V P k = aloneB st s g c V P k
  | 0, _ => rfl
  | k + 1, h => by
    show oneB _ _ _ _ = oneB _ _ _ _
    rw [aloneB_congr k (fun j hj => h j (by omega)), h k (by omega)]
theorem ntR_congr {st f g : Nat → Int32} {d n k V : Nat} (h : ∀ j, j < n → f j = g j) : ntR st f d n k V = ntR st g d n k V := by
  funext s
  unfold ntR
  by_cases hc : s * d ≤ k ∧ k - s * d < n
  · rw [if_pos hc, if_pos hc, h _ hc.2]
  · rw [if_neg hc, if_neg hc]
theorem roundB_congr {st f g : Nat → Int32} {d n V P : Nat} (h : ∀ j, j < n → f j = g j) : ∀ k, roundB st f d n V P k = roundB st g d n V P k
  | 0 => rfl
  | k + 1 => by
    show oneB _ _ _ _ = oneB _ _ _ _
    rw [roundB_congr h k, ntR_congr h]
theorem goodB_congr {f g : Nat → Int32} {o p : Nat} : ∀ n, (∀ j, j < n → f (o + j) = g (p + j)) → goodB f o n = goodB g p n
  | 0, _ => rfl
  | n + 1, h => by
    show (_ && _) = (_ && _)
    rw [goodB_congr n (fun j hj => h j (by omega)), h n (by omega)]
theorem s_trial (m0 m : jM) (hq : SQ m0 m) (st : Nat → Int32) (V P : Nat) (hW : WK st V P) (hR : RK m0 20 st V P) (h01 : m0 20 0 = 0 ∨ m0 20 0 = 1) : vX mX0_takeFrom [.ref 31, .ref 20] m (fun m1 => RK m1 31 st V P ∧ SQ m0 m1 ∧ m1 91 = m 91) :=
  vX_mono (s_CtakeFrom 31 20 k31 k20 (by decide) m st V P hW.v3 hW.p5 (hq.rk hR) (by rw [hq.c 20 (by decide) (by decide)]; exact h01)) (fun m1 h => ⟨h.1, hq.tr (SQ.k h.2.2), h.2.2 91 (by omega)⟩)
theorem s_solo (m0 m : jM) (hq : SQ m0 m) (st : Nat → Int32) (V P : Nat) (hW : WK st V P) (hR : RK m 31 st V P) (s : Nat) (hs : s < V) (n : Nat) (hn : n ≤ 16) (tn : Nat → Int32) (h91 : ∀ j, j < n → m 91 j = tn j) (hto : ∀ j, j < n → ∃ a, a < 8 ∧ tn j = nI a) (ci : Nat) (hci : ci < 256) : vX mX3_trySolo [.ref 0, .int (nI s), .int (nI n), .int (nI ci)] m (fun m1 => RK m1 31 (aloneB st s tn (nI ci) V P n) V P ∧ SQ m0 m1 ∧ m1 91 = m 91) :=
  vX_mono (s_trySolo m st V P hW hR s hs n hn (fun j hj => by rw [h91 j hj]; exact hto j hj) ci hci) (fun m1 h => ⟨by rw [← aloneB_congr n h91]; exact h.1, hq.tr (SQ.tf h.2), h.2.1 91 (by decide) (by omega)⟩)
theorem s_rnd (m0 m : jM) (hq : SQ m0 m) (st : Nat → Int32) (V P : Nat) (hW : WK st V P) (hR : RK m 31 st V P) (d : Nat) (hd : d ≤ 8) (n : Nat) (hn : n ≤ 16) (tn : Nat → Int32) (h91 : ∀ j, j < n → m 91 j = tn j) (hto : ∀ j, j < n → ∃ a, a < 8 ∧ tn j = nI a) : vX mX3_tryRound [.ref 0, .int (nI d), .int (nI n)] m (fun m1 => RK m1 31 (roundB st tn d n V P (rlen d n V)) V P ∧ SQ m0 m1 ∧ m1 91 = m 91) :=
  vX_mono (s_tryRound m st V P hW hR d hd n hn (fun j hj => by rw [h91 j hj]; exact hto j hj)) (fun m1 h => ⟨by rw [← roundB_congr h91]; exact h.1, hq.tr (SQ.tf h.2), h.2.1 91 (by decide) (by omega)⟩)
/-- what status() tells behind a tune that cannot be taken -/
def lackX (m : jM) (r : Nat) (i : Int32) (n : Nat) : Int32 := if m 100 r = -1 then 1 else if ¬ (0 ≤ i ∧ i ≤ m 100 r - nI n) then 2 else m 0 17
theorem s_takeF (m : jM) (r : Nat) (hr : r < 8) (n : Nat) (hn : n ≤ 16) (i : Int32) (hw : RW m r) (hno : ¬ tuneOK m r i n) : iX mX3_takeTune [.ref 0, .ref (2 + 2 * r), .int i, .int (nI n)] m (fun v m1 => v = lackV m r i n ∧ SQ m m1 ∧ m1 0 17 = lackX m r i n) := by
  unfold lackV lackX
  rcases hw with ⟨h0, h1⟩ | ⟨h0, k, hk, h2, h1, -, h4⟩
  · rw [if_pos h1, if_pos h1]
    exact iX_mono (s_take_n m r hr n i h0) (fun v m1 h => ⟨h.1, by rw [← h.2]; exact SQ.s m 1, by rw [← h.2, jst_s, upd_s]⟩)
  · have e : ¬ m 100 r = -1 := by rw [h1]; exact nI_nm1 (by omega)
    rw [if_neg e, if_neg e]
    by_cases hp : 0 ≤ i ∧ i ≤ nI k - nI n
    · rw [h1, if_neg (fun q => q hp), if_neg (fun q => q hp)]
      obtain ⟨i', rfl, hi⟩ := reach_nat hk hn hp
      have hg : ¬ goodB (m (2 + 2 * r + 1)) i' n = true := fun q => hno ⟨i', k, rfl, hk, h1, hi, by rw [← q]; exact (goodB_congr n (fun j hj => by rw [h4 _ (by omega), ← Nat.add_assoc])).symm⟩
      refine iX_mono (s_take m r hr n hn i' k h0 hk h2 hi) (fun v m1 h => ?_)
      obtain ⟨a, ⟨f, rfl⟩, -⟩ := h
      exact ⟨a.trans (if_neg hg), SQ.p m f, by rw [jup_n _ _ (by decide)]⟩
    · rw [h1, if_pos hp, if_pos hp]
      exact iX_mono (s_take_p m r hr n hn i h0 k hk h2 hp) (fun v m1 h => ⟨h.1, by rw [← h.2]; exact SQ.s m 2, by rw [← h.2, jst_s, upd_s]⟩)
theorem lackV_ne0 (m : jM) (r : Nat) (i : Int32) (n : Nat) : ¬ lackV m r i n = 0 := fun h => absurd (lackV_neg m r i n) (by rw [h]; decide)
theorem WK.hrs {st : Nat → Int32} {V P p : Nat} (h : WK st V P) (hp : p < P) {x : Int32} (hx : 0 ≤ x ∧ x ≤ 7) : WK (upd st (31 + p) x) V P := by
  have hP := h.p5
  have g : ∀ i, i ≠ 31 + p → upd st (31 + p) x i = st i := fun i a => upd_n _ _ a
  refine ⟨h.v3, h.p5, ?_, ?_, ?_, ?_, ?_, ?_, ?_, ?_, ?_⟩
  · rw [g _ (by omega)]; exact h.bk
  · intro q hq; rw [g _ (by omega), g (26 + q) (by omega), g (36 + q) (by omega)]; exact h.dn q hq
  · intro q hq; rw [g _ (by omega), g (36 + q) (by omega), g (46 + q) (by omega)]; exact h.hn q hq
  · intro q hq; rw [g _ (by omega)]; exact h.hd q hq
  · intro q hq; rw [g _ (by omega)]; exact h.tk q hq
  · intro q hq; rw [g _ (by omega)]; exact h.nd q hq
  · intro q hq; rw [g _ (by omega)]; exact h.kd q hq
  · intro q hq; rw [g _ (by omega)]; exact h.md q hq
  · intro q hq
    by_cases e : q = p
    · subst e; rw [upd_s]; exact hx
    · rw [g _ (by omega)]; exact h.hr q hq
theorem WK.mds {st : Nat → Int32} {V P p : Nat} (h : WK st V P) (hp : p < P) {x : Int32} (hx : 0 ≤ x ∧ x ≤ 127) : WK (upd st (21 + p) x) V P := by
  have hP := h.p5
  have g : ∀ i, i ≠ 21 + p → upd st (21 + p) x i = st i := fun i a => upd_n _ _ a
  refine ⟨h.v3, h.p5, ?_, ?_, ?_, ?_, ?_, ?_, ?_, ?_, ?_⟩
  · rw [g _ (by omega)]; exact h.bk
  · intro q hq; rw [g _ (by omega), g (26 + q) (by omega), g (36 + q) (by omega)]; exact h.dn q hq
  · intro q hq; rw [g _ (by omega), g (36 + q) (by omega), g (46 + q) (by omega)]; exact h.hn q hq
  · intro q hq; rw [g _ (by omega)]; exact h.hd q hq
  · intro q hq; rw [g _ (by omega)]; exact h.tk q hq
  · intro q hq; rw [g _ (by omega)]; exact h.nd q hq
  · intro q hq; rw [g _ (by omega)]; exact h.kd q hq
  · intro q hq
    by_cases e : q = p
    · subst e; rw [upd_s]; exact hx
    · rw [g _ (by omega)]; exact h.md q hq
  · intro q hq; rw [g _ (by omega)]; exact h.hr q hq
theorem hr_out {x : Int32} (hx : 0 ≤ x ∧ x ≤ 7) {k : Nat} (hk : k < 8) : 0 ≤ x &&& (nI k ^^^ (-1)) ∧ x &&& (nI k ^^^ (-1)) ≤ 7 := by
  obtain ⟨a, ha, rfl⟩ := j_ran (n := 7) (by decide) hx
  exact co2 (P := fun a k => 0 ≤ nI a &&& (nI k ^^^ (-1)) ∧ nI a &&& (nI k ^^^ (-1)) ≤ 7) (a := 8) (b := 8) (by decide) (fun q hq => co_dec (P := fun q => 0 ≤ nI (q / 8) &&& (nI (q % 8) ^^^ (-1)) ∧ nI (q / 8) &&& (nI (q % 8) ^^^ (-1)) ≤ 7) (by decide +kernel) hq) ha hk
/-- how many pans are set, as the class counts them -/
theorem bc_set {st : Nat → Int32} {V P : Nat} (h : WK st V P) : bcX (setB st P) = nI (popc (setN st P)) := by
  rw [setB_N P h.p5 h.d01]
  exact bcX_k _ (set_256 h.p5)
/-- the best set of windows so far: how many, which -/
def fwI (b : Option Nat) : Int32 := match b with
  | none => 4
  | some k => nI (popc k)
def whI (b : Option Nat) : Int32 := match b with
  | none => -1000000
  | some k => nI k
theorem popc8 : ∀ k, k < 8 → popc k < 4 := fun k h => co_dec (P := fun k => popc k < 4) (by decide +kernel) h
/-- modes counted from below -/
def cntU (f : Nat → Bool) (a : Nat) : Nat → Nat
  | 0 => 0
  | c + 1 => cntU f a c + (if f (a + c) = true then 1 else 0)
def fstU (f : Nat → Bool) : Nat → Nat → Int32
  | _, 0 => -1000000
  | a, c + 1 => if f a = true then nI a else fstU f (a + 1) c
theorem cntU_l (f : Nat → Bool) : ∀ c a, cntU f a (c + 1) = (if f a = true then 1 else 0) + cntU f (a + 1) c
  | 0, a => by show 0 + _ = _ + 0; rw [Nat.zero_add, Nat.add_zero]; rfl
  | c + 1, a => by
    show cntU f a (c + 1) + (if f (a + (c + 1)) = true then 1 else 0) = _ + (cntU f (a + 1) c + (if f (a + 1 + c) = true then 1 else 0))
    rw [cntU_l f c a, show a + (c + 1) = a + 1 + c by omega]
    omega
theorem cntU_le (f : Nat → Bool) (a : Nat) : ∀ c, cntU f a c ≤ c
  | 0 => Nat.le_refl _
  | c + 1 => by
    have := cntU_le f a c
    unfold cntU
    split <;> omega
theorem fstU_r (f : Nat → Bool) : ∀ c a, fstU f a (c + 1) = if cntU f a c = 0 then (if f (a + c) = true then nI (a + c) else -1000000) else fstU f a c
  | 0, a => by
    rw [if_pos (show cntU f a 0 = 0 from rfl)]
    rfl
  | c + 1, a => by
    show (if f a = true then nI a else fstU f (a + 1) (c + 1)) = _
    rw [cntU_l]
    by_cases h : f a = true
    · rw [if_pos h, if_pos h, if_neg (by omega)]
      show nI a = if f a = true then nI a else _
      rw [if_pos h]
    · rw [if_neg h, if_neg h, Nat.zero_add, fstU_r f c (a + 1), show a + 1 + c = a + (c + 1) by omega]
      show _ = if _ then _ else (if f a = true then nI a else fstU f (a + 1) c)
      rw [if_neg h]
theorem cntD_U (f : Nat → Bool) : ∀ j, j ≤ 128 → cntD f j = cntU f (128 - j) j
  | 0, _ => rfl
  | j + 1, h => by
    show cntD f j + (if f (127 - j) = true then 1 else 0) = _
    rw [cntD_U f j (by omega), cntU_l, show 128 - (j + 1) = 127 - j by omega, show 127 - j + 1 = 128 - j by omega]
    omega
theorem lstD_U (f : Nat → Bool) : ∀ j, j ≤ 128 → lstD f j = fstU f (128 - j) j
  | 0, _ => rfl
  | j + 1, h => by
    show (if f (127 - j) = true then nI (127 - j) else lstD f j) = _
    rw [lstD_U f j (by omega), show 128 - (j + 1) = 127 - j by omega]
    show _ = if f (127 - j) = true then nI (127 - j) else fstU f (127 - j + 1) j
    rw [show 127 - j + 1 = 128 - j by omega]
/-- weights of coughs -/
def pcN (k : Nat) : Nat → Nat
  | 0 => 0
  | j + 1 => pcN k j + (if k / 2 ^ j % 2 = 1 then 1 else 0)
theorem pcN_le (k : Nat) : ∀ j, pcN k j ≤ j
  | 0 => Nat.le_refl _
  | j + 1 => by
    have := pcN_le k j
    unfold pcN
    split <;> omega
theorem prN_pow (c k : Nat) : ∀ j, prN c k j = c ^ pcN k j * (10 - c) ^ (j - pcN k j)
  | 0 => rfl
  | j + 1 => by
    have hl := pcN_le k j
    show prN c k j * (if k / 2 ^ j % 2 = 1 then c else 10 - c) = _
    rw [prN_pow c k j, show pcN k (j + 1) = pcN k j + (if k / 2 ^ j % 2 = 1 then 1 else 0) from rfl]
    by_cases h : k / 2 ^ j % 2 = 1
    · rw [if_pos h, if_pos h, show j + 1 - (pcN k j + 1) = j - pcN k j by omega, Nat.pow_succ, Nat.mul_right_comm]
    · rw [if_neg h, if_neg h, Nat.add_zero, show j + 1 - pcN k j = (j - pcN k j) + 1 by omega, Nat.pow_succ, Nat.mul_assoc]
theorem pcN_c : ∀ n, n < 9 → ∀ k, k < 2 ^ n → pcN k n = popc k := by
  intro n hn k hk
  have h : (List.range 9).all (fun n => (List.range (2 ^ n)).all (fun k => decide (pcN k n = popc k))) = true := by decide +kernel
  exact of_decide_eq_true (List.all_eq_true.mp (List.all_eq_true.mp h n (List.mem_range.mpr hn)) k (List.mem_range.mpr hk))
theorem pc_le {n k : Nat} (hn : n < 9) (hk : k < 2 ^ n) : popc k ≤ n := by rw [← pcN_c n hn k hk]; exact pcN_le k n
theorem wgt_ok {c k n : Nat} (hn : n < 9) (hk : k < 2 ^ n) : c ^ popc k * (10 - c) ^ (n - popc k) = prN c k n := by rw [prN_pow, pcN_c n hn k hk]
theorem prN_le {c k n : Nat} (hc : c ≤ 10) : prN c k n ≤ 10 ^ n := by
  induction n with
  | zero => exact Nat.le_refl _
  | succ j ih =>
    show prN c k j * (if k / 2 ^ j % 2 = 1 then c else 10 - c) ≤ _
    rw [Nat.pow_succ]
    refine Nat.mul_le_mul ih ?_
    split <;> omega
/-- the greatest common divisor: a product that halves -/
theorem gcd_half {x y : Nat} (hy : 0 < y) (hxy : y ≤ x) : 2 * (y * (x % y)) ≤ x * y := by
  have h1 := Nat.mod_lt x hy
  have h2 := Nat.div_add_mod x y
  have h3 : 1 ≤ x / y := (Nat.one_le_div_iff hy).mpr hxy
  have h4 : y * 1 ≤ y * (x / y) := Nat.mul_le_mul_left y h3
  have h5 : 2 * (x % y) ≤ x := by omega
  calc 2 * (y * (x % y)) = y * (2 * (x % y)) := by rw [Nat.mul_left_comm]
    _ ≤ y * x := Nat.mul_le_mul_left y h5
    _ = x * y := Nat.mul_comm _ _
theorem gcd_st {x y t : Nat} (hy : 0 < y) (h : t = 0 ∨ y ≤ x) (hb : x * y * 2 ^ t ≤ (if t = 0 then 10 ^ 16 else 2 * 10 ^ 16)) : (t + 1 = 0 ∨ x % y ≤ y) ∧ y * (x % y) * 2 ^ (t + 1) ≤ (if t + 1 = 0 then 10 ^ 16 else 2 * 10 ^ 16) := by
  refine ⟨Or.inr (Nat.le_of_lt (Nat.mod_lt x hy)), ?_⟩
  rw [if_neg (by omega)]
  rcases h with rfl | h
  · rw [if_pos rfl] at hb
    have h1 : y * (x % y) ≤ x * y := by rw [Nat.mul_comm x y]; exact Nat.mul_le_mul_left y (Nat.mod_le x y)
    have : y * (x % y) * 2 ^ (0 + 1) = 2 * (y * (x % y)) := by rw [Nat.mul_comm]
    rw [this]
    have hb' : x * y ≤ 10 ^ 16 := by simpa using hb
    omega
  · have h1 := gcd_half hy h
    have h2 : y * (x % y) * 2 ^ (t + 1) = 2 * (y * (x % y)) * 2 ^ t := by rw [Nat.pow_succ, Nat.mul_comm (2 ^ t) 2, ← Nat.mul_assoc, Nat.mul_comm (y * (x % y)) 2]
    rw [h2]
    refine Nat.le_trans (Nat.mul_le_mul_right _ h1) ?_
    split at hb
    · rename_i h0; subst h0; omega
    · exact hb
theorem gcd_end {x y : Nat} (h : y ≤ x) (hb : x * y * 2 ^ 100 ≤ 2 * 10 ^ 16) : y = 0 := by
  rcases Nat.eq_zero_or_pos y with q | q
  · exact q
  · exfalso
    have h1 : 1 ≤ x * y := Nat.mul_pos (by omega) q
    have h2 : 2 ^ 100 ≤ x * y * 2 ^ 100 := by
      calc 2 ^ 100 = 1 * 2 ^ 100 := (Nat.one_mul _).symm
        _ ≤ x * y * 2 ^ 100 := Nat.mul_le_mul_right _ h1
    have h3 : ¬ (2 ^ 100 ≤ 2 * 10 ^ 16) := by decide
    exact h3 (Nat.le_trans h2 hb)
set_option maxHeartbeats 2000000 in
set_option maxRecDepth 20000 in
theorem s_Jalone_b (m : jM) (st : Nat → Int32) (V P : Nat) (hV : V ≤ 3) (hP : P ≤ 5) (hR : RK m 20 st V P) (x y i z : Int32) (hb : ¬ (inN x V ∧ inN y 8 ∧ inN z 17)) : iX mX3_alone [.ref 0, .int x, .int y, .int i, .int z] m (fun v m1 => v = -1000001 ∧ m = m1) := by
  refine jX_of (L := [some (.ref 0), some (.int x), some (.int y), some (.int i), some (.int z), none]) 1 rfl rfl (by decide +kernel) rfl ?_
  refine e_iload_n dX3_alone_0 rfl ?_
  refine e_aload_n dX3_alone_1 rfl ?_
  refine e_getR (o := 20) (b := 20) dX3_alone_2 lkX3_25 rfl rfl (by decide) rfl ?_
  refine e_getI dX3_alone_5 lkX3_147 rfl rfl ?_
  rw [show m 20 2 = nI V from hR.vs]
  refine e_callSi (n := 2) mX3_isNot [.int x, .int (nI V)] dX3_alone_8 ckX3_80 rfl (by decide +kernel) rfl rfl (Nat.le_of_ble_eq_true rfl) ⟨Nat.zero_le _, Nat.zero_le _⟩ (s_notN m x (nI V) V rfl) (fun v8 m1 hm1 => ?_)
  rcases hm1 with ⟨rfl, ⟨rfl, q⟩ | ⟨rfl, q⟩⟩
  · refine e_if_ne 33 dX3_alone_11 (by decide) (fun c11 => ?_) (fun h => absurd h (by decide))
    refine e_ldc dX3_alone_33 kkX3_84 ?_
    exact e_iret dX3_alone_35 rfl (⟨rfl, rfl⟩)
  · have q := Classical.not_not.mp q
    refine e_if_ne 33 dX3_alone_11 (by decide) (fun h => absurd h (by decide)) (fun c11 => ?_)
    refine e_iload_n dX3_alone_14 rfl ?_
    refine e_bipush (v := 8) dX3_alone_15 rfl ?_
    refine e_callSi (n := 2) mX3_isNot [.int y, .int 8] dX3_alone_17 ckX3_80 rfl (by decide +kernel) rfl rfl (Nat.le_of_ble_eq_true rfl) ⟨Nat.zero_le _, Nat.zero_le _⟩ (s_notN m y 8 8 rfl) (fun v17 m2 hm2 => ?_)
    rcases hm2 with ⟨rfl, ⟨rfl, q1⟩ | ⟨rfl, q1⟩⟩
    · refine e_if_ne 33 dX3_alone_20 (by decide) (fun c20 => ?_) (fun h => absurd h (by decide))
      refine e_ldc dX3_alone_33 kkX3_84 ?_
      exact e_iret dX3_alone_35 rfl (⟨rfl, rfl⟩)
    · have q1 := Classical.not_not.mp q1
      refine e_if_ne 33 dX3_alone_20 (by decide) (fun h => absurd h (by decide)) (fun c20 => ?_)
      refine e_iload dX3_alone_23 rfl ?_
      refine e_bipush (v := 17) dX3_alone_25 rfl ?_
      refine e_callSi (n := 2) mX3_isNot [.int z, .int 17] dX3_alone_27 ckX3_80 rfl (by decide +kernel) rfl rfl (Nat.le_of_ble_eq_true rfl) ⟨Nat.zero_le _, Nat.zero_le _⟩ (s_notN m z 17 17 rfl) (fun v27 m3 hm3 => ?_)
      rcases hm3 with ⟨rfl, ⟨rfl, q2⟩ | ⟨rfl, q2⟩⟩
      · refine e_if_eq 36 dX3_alone_30 (by decide) (fun h => absurd h (by decide)) (fun c30 => ?_)
        refine e_ldc dX3_alone_33 kkX3_84 ?_
        exact e_iret dX3_alone_35 rfl (⟨rfl, rfl⟩)
      · have q2 := Classical.not_not.mp q2
        exact False.elim (hb ⟨q, q1, q2⟩)

set_option maxHeartbeats 2000000 in
set_option maxRecDepth 20000 in
theorem s_Jalone_f (m : jM) (st : Nat → Int32) (V P : Nat) (hV : V ≤ 3) (hP : P ≤ 5) (hR : RK m 20 st V P) (s : Nat) (hs : s < V) (r : Nat) (hr : r < 8) (n : Nat) (hn : n ≤ 16) (i : Int32) (hrw : RW m r) (htn : ¬ tuneOK m r i n) : iX mX3_alone [.ref 0, .int (nI s), .int (nI r), .int i, .int (nI n)] m (fun v m1 => v = lackV m r i n ∧ SQ m m1 ∧ m1 0 17 = lackX m r i n) := by
  refine jX_of (L := [some (.ref 0), some (.int (nI s)), some (.int (nI r)), some (.int i), some (.int (nI n)), none]) 1 rfl rfl (by decide +kernel) rfl ?_
  refine e_iload_n dX3_alone_0 rfl ?_
  refine e_aload_n dX3_alone_1 rfl ?_
  refine e_getR (o := 20) (b := 20) dX3_alone_2 lkX3_25 rfl rfl (by decide) rfl ?_
  refine e_getI dX3_alone_5 lkX3_147 rfl rfl ?_
  rw [show m 20 2 = nI V from hR.vs]
  refine e_callSi (n := 2) mX3_isNot [.int (nI s), .int (nI V)] dX3_alone_8 ckX3_80 rfl (by decide +kernel) rfl rfl (Nat.le_of_ble_eq_true rfl) ⟨Nat.zero_le _, Nat.zero_le _⟩ (s_notN m (nI s) (nI V) V rfl) (fun v8 m1 hm1 => ?_)
  rcases hm1 with ⟨rfl, ⟨rfl, q⟩ | ⟨rfl, q⟩⟩
  · exact False.elim (q (inN_nI (by omega) hs))
  · have q := Classical.not_not.mp q
    refine e_if_ne 33 dX3_alone_11 (by decide) (fun h => absurd h (by decide)) (fun c11 => ?_)
    refine e_iload_n dX3_alone_14 rfl ?_
    refine e_bipush (v := 8) dX3_alone_15 rfl ?_
    refine e_callSi (n := 2) mX3_isNot [.int (nI r), .int 8] dX3_alone_17 ckX3_80 rfl (by decide +kernel) rfl rfl (Nat.le_of_ble_eq_true rfl) ⟨Nat.zero_le _, Nat.zero_le _⟩ (s_notN m (nI r) 8 8 rfl) (fun v17 m2 hm2 => ?_)
    rcases hm2 with ⟨rfl, ⟨rfl, q1⟩ | ⟨rfl, q1⟩⟩
    · exact False.elim (q1 (inN_nI (by decide) hr))
    · have q1 := Classical.not_not.mp q1
      refine e_if_ne 33 dX3_alone_20 (by decide) (fun h => absurd h (by decide)) (fun c20 => ?_)
      refine e_iload dX3_alone_23 rfl ?_
      refine e_bipush (v := 17) dX3_alone_25 rfl ?_
      refine e_callSi (n := 2) mX3_isNot [.int (nI n), .int 17] dX3_alone_27 ckX3_80 rfl (by decide +kernel) rfl rfl (Nat.le_of_ble_eq_true rfl) ⟨Nat.zero_le _, Nat.zero_le _⟩ (s_notN m (nI n) 17 17 rfl) (fun v27 m3 hm3 => ?_)
      rcases hm3 with ⟨rfl, ⟨rfl, q2⟩ | ⟨rfl, q2⟩⟩
      · exact False.elim (q2 (inN_nI (by decide) (by omega)))
      · have q2 := Classical.not_not.mp q2
        refine e_if_eq 36 dX3_alone_30 (by decide) (fun c30 => ?_) (fun h => absurd h (by decide))
        refine e_aload_n dX3_alone_36 rfl ?_
        refine e_aload_n dX3_alone_37 rfl ?_
        refine e_getR (o := 1) (b := 1) dX3_alone_38 lkX3_11 rfl rfl (by decide) rfl ?_
        refine e_iload_n dX3_alone_41 rfl ?_
        refine e_aald (b := 2 + 2 * r) dX3_alone_42 rfl (by decide) r rfl (by omega) (by decide) rfl ?_
        refine e_iload_n dX3_alone_43 rfl ?_
        refine e_iload dX3_alone_44 rfl ?_
        refine e_callVi (n := 3) mX3_takeTune [.ref (2 + 2 * r), .int i, .int (nI n)] dX3_alone_46 ckX3_198 rfl (by decide +kernel) rfl rfl rfl rfl (Nat.le_of_ble_eq_true rfl) ⟨Nat.zero_le _, Nat.zero_le _⟩ (s_takeF m r hr n (by omega) i hrw htn) (fun v46 mt hmt => ?_)
        obtain ⟨rfl, hl⟩ := hmt
        refine e_istore (L' := [some (.ref 0), some (.int (nI s)), some (.int (nI r)), some (.int i), some (.int (nI n)), some (.int (lackV m r i n))]) dX3_alone_49 (Nat.le_of_ble_eq_true rfl) (Nat.le_of_ble_eq_true rfl) (jnl_at (i := 4) rfl) rfl ?_
        refine e_iload dX3_alone_51 rfl ?_
        refine e_if_eq 59 dX3_alone_53 (by decide) (fun h => absurd h (lackV_ne0 m r i n)) (fun c53 => ?_)
        refine e_iload dX3_alone_56 rfl ?_
        exact e_iret dX3_alone_58 rfl (⟨rfl, hl⟩)

set_option maxHeartbeats 2000000 in
set_option maxRecDepth 20000 in
theorem s_Jalone (m : jM) (st : Nat → Int32) (V P : Nat) (hW : WK st V P) (hR : RK m 20 st V P) (h01 : m 20 0 = 1) (s : Nat) (hs : s < V) (r : Nat) (hr : r < 8) (n : Nat) (hn : n ≤ 16) (i k : Nat) (h0 : m (2 + 2 * r) 0 = 1) (hk : k ≤ 40) (h2 : m (2 + 2 * r) 2 = nI k) (hik : i + n ≤ k) (hg : goodB (m (2 + 2 * r + 1)) i n = true) (tn : Nat → Int32) (htn : ∀ j, j < n → m (2 + 2 * r + 1) (i + j) = tn j) : iX mX3_alone [.ref 0, .int (nI s), .int (nI r), .int (nI i), .int (nI n)] m (fun v m1 => v = setB (aloneB st s tn 0 V P n) P ∧ SQ m m1 ∧ m1 0 17 = 0) := by
  have hV := hW.v3
  have hP := hW.p5
  have hto : ∀ j, j < n → ∃ a, a < 8 ∧ tn j = nI a := fun j hj => by rw [← htn j hj]; exact goodB_ok hg j hj
  refine jX_of (L := [some (.ref 0), some (.int (nI s)), some (.int (nI r)), some (.int (nI i)), some (.int (nI n)), none]) 1 rfl rfl (by decide +kernel) rfl ?_
  refine e_iload_n dX3_alone_0 rfl ?_
  refine e_aload_n dX3_alone_1 rfl ?_
  refine e_getR (o := 20) (b := 20) dX3_alone_2 lkX3_25 rfl rfl (by decide) rfl ?_
  refine e_getI dX3_alone_5 lkX3_147 rfl rfl ?_
  rw [show m 20 2 = nI V from hR.vs]
  refine e_callSi (n := 2) mX3_isNot [.int (nI s), .int (nI V)] dX3_alone_8 ckX3_80 rfl (by decide +kernel) rfl rfl (Nat.le_of_ble_eq_true rfl) ⟨Nat.zero_le _, Nat.zero_le _⟩ (s_notN m (nI s) (nI V) V rfl) (fun v8 m1 hm1 => ?_)
  rcases hm1 with ⟨rfl, ⟨rfl, q⟩ | ⟨rfl, q⟩⟩
  · exact False.elim (q (inN_nI (by omega) hs))
  · have q := Classical.not_not.mp q
    refine e_if_ne 33 dX3_alone_11 (by decide) (fun h => absurd h (by decide)) (fun c11 => ?_)
    refine e_iload_n dX3_alone_14 rfl ?_
    refine e_bipush (v := 8) dX3_alone_15 rfl ?_
    refine e_callSi (n := 2) mX3_isNot [.int (nI r), .int 8] dX3_alone_17 ckX3_80 rfl (by decide +kernel) rfl rfl (Nat.le_of_ble_eq_true rfl) ⟨Nat.zero_le _, Nat.zero_le _⟩ (s_notN m (nI r) 8 8 rfl) (fun v17 m2 hm2 => ?_)
    rcases hm2 with ⟨rfl, ⟨rfl, q1⟩ | ⟨rfl, q1⟩⟩
    · exact False.elim (q1 (inN_nI (by decide) hr))
    · have q1 := Classical.not_not.mp q1
      refine e_if_ne 33 dX3_alone_20 (by decide) (fun h => absurd h (by decide)) (fun c20 => ?_)
      refine e_iload dX3_alone_23 rfl ?_
      refine e_bipush (v := 17) dX3_alone_25 rfl ?_
      refine e_callSi (n := 2) mX3_isNot [.int (nI n), .int 17] dX3_alone_27 ckX3_80 rfl (by decide +kernel) rfl rfl (Nat.le_of_ble_eq_true rfl) ⟨Nat.zero_le _, Nat.zero_le _⟩ (s_notN m (nI n) 17 17 rfl) (fun v27 m3 hm3 => ?_)
      rcases hm3 with ⟨rfl, ⟨rfl, q2⟩ | ⟨rfl, q2⟩⟩
      · exact False.elim (q2 (inN_nI (by decide) (by omega)))
      · have q2 := Classical.not_not.mp q2
        refine e_if_eq 36 dX3_alone_30 (by decide) (fun c30 => ?_) (fun h => absurd h (by decide))
        refine e_aload_n dX3_alone_36 rfl ?_
        refine e_aload_n dX3_alone_37 rfl ?_
        refine e_getR (o := 1) (b := 1) dX3_alone_38 lkX3_11 rfl rfl (by decide) rfl ?_
        refine e_iload_n dX3_alone_41 rfl ?_
        refine e_aald (b := 2 + 2 * r) dX3_alone_42 rfl (by decide) r rfl (by omega) (by decide) rfl ?_
        refine e_iload_n dX3_alone_43 rfl ?_
        refine e_iload dX3_alone_44 rfl ?_
        refine e_callVi (n := 3) mX3_takeTune [.ref (2 + 2 * r), .int (nI i), .int (nI n)] dX3_alone_46 ckX3_198 rfl (by decide +kernel) rfl rfl rfl rfl (Nat.le_of_ble_eq_true rfl) ⟨Nat.zero_le _, Nat.zero_le _⟩ (s_take m r hr n (by omega) i k h0 hk h2 hik) (fun v46 mt hmt => ?_)
        obtain ⟨ev, ⟨ft, eft⟩, e91⟩ := hmt
        rw [if_pos hg] at ev
        subst ev
        have h91 : ∀ j, j < n → mt 91 j = tn j := fun j hj => (e91 hg j hj).trans (htn j hj)
        have hq : SQ m mt := by rw [← eft]; exact SQ.p m ft
        refine e_istore (L' := [some (.ref 0), some (.int (nI s)), some (.int (nI r)), some (.int (nI i)), some (.int (nI n)), some (.int 0)]) dX3_alone_49 (Nat.le_of_ble_eq_true rfl) (Nat.le_of_ble_eq_true rfl) (jnl_at (i := 4) rfl) rfl ?_
        refine e_iload dX3_alone_51 rfl ?_
        refine e_if_eq 59 dX3_alone_53 (by decide) (fun c53 => ?_) (fun h => absurd h (by decide))
        refine e_aload_n dX3_alone_59 rfl ?_
        refine e_getR (o := 31) (b := 31) dX3_alone_60 lkX3_29 rfl rfl (by decide) rfl ?_
        refine e_aload_n dX3_alone_63 rfl ?_
        refine e_getR (o := 20) (b := 20) dX3_alone_64 lkX3_25 rfl rfl (by decide) rfl ?_
        refine e_callVv (n := 1) mX0_takeFrom [.ref 20] dX3_alone_67 ckX3_137 rfl (by decide +kernel) rfl rfl rfl rfl (Nat.le_of_ble_eq_true rfl) ⟨Nat.zero_le _, Nat.zero_le _⟩ (s_trial _ mt hq st V P hW hR (Or.inr h01)) (fun mu hmu => ?_)
        obtain ⟨hRu, hqu, eu⟩ := hmu
        refine e_aload_n dX3_alone_70 rfl ?_
        refine e_iload_n dX3_alone_71 rfl ?_
        refine e_iload dX3_alone_72 rfl ?_
        refine e_iconst (v := 0) dX3_alone_74 rfl ?_
        refine e_callVv (n := 3) mX3_trySolo [.int (nI s), .int (nI n), .int 0] dX3_alone_75 ckX3_202 rfl (by decide +kernel) rfl rfl rfl rfl (Nat.le_of_ble_eq_true rfl) ⟨Nat.zero_le _, Nat.zero_le _⟩ (s_solo _ mu hqu (st) V P hW hRu s hs n (by omega) tn (fun j hj => by rw [eu]; exact h91 j hj) hto 0 (by decide)) (fun mv hmv => ?_)
        obtain ⟨hRv, hqv, e91v⟩ := hmv
        refine e_aload_n dX3_alone_78 rfl ?_
        refine e_aload_n dX3_alone_79 rfl ?_
        refine e_getR (o := 31) (b := 31) dX3_alone_80 lkX3_29 rfl rfl (by decide) rfl ?_
        refine e_callVi (n := 0) mX0_setPans [] dX3_alone_83 ckX3_160 rfl (by decide +kernel) rfl rfl rfl rfl (Nat.le_of_ble_eq_true rfl) ⟨Nat.zero_le _, Nat.zero_le _⟩ (s_CsetPans 31 k31 mv (aloneB st s tn 0 V P n) V P (hW.alone hto n (Nat.le_refl n)) hRv) (fun v83 m7 hm7 => ?_)
        obtain ⟨rfl, rfl⟩ := hm7
        refine e_callVi (n := 1) mX3_fine [.int (setB (aloneB st s tn 0 V P n) P)] dX3_alone_86 ckX3_93 rfl (by decide +kernel) rfl rfl rfl rfl (Nat.le_of_ble_eq_true rfl) ⟨Nat.zero_le _, Nat.zero_le _⟩ (s_fine mv (setB (aloneB st s tn 0 V P n) P)) (fun v86 mw hmw => ?_)
        obtain ⟨rfl, hw⟩ := hmw
        exact e_iret dX3_alone_89 rfl (⟨rfl, by rw [← hw]; exact hqv.tr (SQ.s _ 0), by rw [← hw, jup_s, upd_s]⟩)

set_option maxHeartbeats 2000000 in
set_option maxRecDepth 20000 in
theorem s_Jround_s (m : jM) (x y i z : Int32) (h0 : m 20 0 = 0) : iX mX3_round [.ref 0, .int x, .int y, .int i, .int z] m (fun v m1 => v = -1000002 ∧ m = m1) := by
  refine jX_of (L := [some (.ref 0), some (.int x), some (.int y), some (.int i), some (.int z), none]) 1 rfl rfl (by decide +kernel) rfl ?_
  refine e_aload_n dX3_round_0 rfl ?_
  refine e_getR (o := 20) (b := 20) dX3_round_1 lkX3_25 rfl rfl (by decide) rfl ?_
  refine e_getI dX3_round_4 lkX3_143 rfl rfl ?_
  rw [show m 20 0 = 0 from h0]
  refine e_if_ne 13 dX3_round_7 (by decide) (fun h => absurd rfl h) (fun c7 => ?_)
  refine e_ldc dX3_round_10 kkX3_146 ?_
  exact e_iret dX3_round_12 rfl (⟨rfl, rfl⟩)

set_option maxHeartbeats 2000000 in
set_option maxRecDepth 20000 in
theorem s_Jround_b (m : jM) (x y i z : Int32) (h01 : m 20 0 = 1) (hb : ¬ (inN x 9 ∧ inN y 8 ∧ inN z 17)) : iX mX3_round [.ref 0, .int x, .int y, .int i, .int z] m (fun v m1 => v = -1000001 ∧ m = m1) := by
  refine jX_of (L := [some (.ref 0), some (.int x), some (.int y), some (.int i), some (.int z), none]) 1 rfl rfl (by decide +kernel) rfl ?_
  refine e_aload_n dX3_round_0 rfl ?_
  refine e_getR (o := 20) (b := 20) dX3_round_1 lkX3_25 rfl rfl (by decide) rfl ?_
  refine e_getI dX3_round_4 lkX3_143 rfl rfl ?_
  rw [show m 20 0 = 1 from h01]
  refine e_if_ne 13 dX3_round_7 (by decide) (fun c7 => ?_) (fun h => absurd h (by decide))
  refine e_iload_n dX3_round_13 rfl ?_
  refine e_bipush (v := 9) dX3_round_14 rfl ?_
  refine e_callSi (n := 2) mX3_isNot [.int x, .int 9] dX3_round_16 ckX3_80 rfl (by decide +kernel) rfl rfl (Nat.le_of_ble_eq_true rfl) ⟨Nat.zero_le _, Nat.zero_le _⟩ (s_notN m x 9 9 rfl) (fun v16 m1 hm1 => ?_)
  rcases hm1 with ⟨rfl, ⟨rfl, q⟩ | ⟨rfl, q⟩⟩
  · refine e_if_ne 41 dX3_round_19 (by decide) (fun c19 => ?_) (fun h => absurd h (by decide))
    refine e_ldc dX3_round_41 kkX3_84 ?_
    exact e_iret dX3_round_43 rfl (⟨rfl, rfl⟩)
  · have q := Classical.not_not.mp q
    refine e_if_ne 41 dX3_round_19 (by decide) (fun h => absurd h (by decide)) (fun c19 => ?_)
    refine e_iload_n dX3_round_22 rfl ?_
    refine e_bipush (v := 8) dX3_round_23 rfl ?_
    refine e_callSi (n := 2) mX3_isNot [.int y, .int 8] dX3_round_25 ckX3_80 rfl (by decide +kernel) rfl rfl (Nat.le_of_ble_eq_true rfl) ⟨Nat.zero_le _, Nat.zero_le _⟩ (s_notN m y 8 8 rfl) (fun v25 m2 hm2 => ?_)
    rcases hm2 with ⟨rfl, ⟨rfl, q1⟩ | ⟨rfl, q1⟩⟩
    · refine e_if_ne 41 dX3_round_28 (by decide) (fun c28 => ?_) (fun h => absurd h (by decide))
      refine e_ldc dX3_round_41 kkX3_84 ?_
      exact e_iret dX3_round_43 rfl (⟨rfl, rfl⟩)
    · have q1 := Classical.not_not.mp q1
      refine e_if_ne 41 dX3_round_28 (by decide) (fun h => absurd h (by decide)) (fun c28 => ?_)
      refine e_iload dX3_round_31 rfl ?_
      refine e_bipush (v := 17) dX3_round_33 rfl ?_
      refine e_callSi (n := 2) mX3_isNot [.int z, .int 17] dX3_round_35 ckX3_80 rfl (by decide +kernel) rfl rfl (Nat.le_of_ble_eq_true rfl) ⟨Nat.zero_le _, Nat.zero_le _⟩ (s_notN m z 17 17 rfl) (fun v35 m3 hm3 => ?_)
      rcases hm3 with ⟨rfl, ⟨rfl, q2⟩ | ⟨rfl, q2⟩⟩
      · refine e_if_eq 44 dX3_round_38 (by decide) (fun h => absurd h (by decide)) (fun c38 => ?_)
        refine e_ldc dX3_round_41 kkX3_84 ?_
        exact e_iret dX3_round_43 rfl (⟨rfl, rfl⟩)
      · have q2 := Classical.not_not.mp q2
        exact False.elim (hb ⟨q, q1, q2⟩)

set_option maxHeartbeats 2000000 in
set_option maxRecDepth 20000 in
theorem s_Jround_f (m : jM) (h01 : m 20 0 = 1) (d : Nat) (hd : d ≤ 8) (r : Nat) (hr : r < 8) (n : Nat) (hn : n ≤ 16) (i : Int32) (hrw : RW m r) (htn : ¬ tuneOK m r i n) : iX mX3_round [.ref 0, .int (nI d), .int (nI r), .int i, .int (nI n)] m (fun v m1 => v = lackV m r i n ∧ SQ m m1 ∧ m1 0 17 = lackX m r i n) := by
  refine jX_of (L := [some (.ref 0), some (.int (nI d)), some (.int (nI r)), some (.int i), some (.int (nI n)), none]) 1 rfl rfl (by decide +kernel) rfl ?_
  refine e_aload_n dX3_round_0 rfl ?_
  refine e_getR (o := 20) (b := 20) dX3_round_1 lkX3_25 rfl rfl (by decide) rfl ?_
  refine e_getI dX3_round_4 lkX3_143 rfl rfl ?_
  rw [show m 20 0 = 1 from h01]
  refine e_if_ne 13 dX3_round_7 (by decide) (fun c7 => ?_) (fun h => absurd h (by decide))
  refine e_iload_n dX3_round_13 rfl ?_
  refine e_bipush (v := 9) dX3_round_14 rfl ?_
  refine e_callSi (n := 2) mX3_isNot [.int (nI d), .int 9] dX3_round_16 ckX3_80 rfl (by decide +kernel) rfl rfl (Nat.le_of_ble_eq_true rfl) ⟨Nat.zero_le _, Nat.zero_le _⟩ (s_notN m (nI d) 9 9 rfl) (fun v16 m1 hm1 => ?_)
  rcases hm1 with ⟨rfl, ⟨rfl, q⟩ | ⟨rfl, q⟩⟩
  · exact False.elim (q (inN_nI (by decide) (by omega)))
  · have q := Classical.not_not.mp q
    refine e_if_ne 41 dX3_round_19 (by decide) (fun h => absurd h (by decide)) (fun c19 => ?_)
    refine e_iload_n dX3_round_22 rfl ?_
    refine e_bipush (v := 8) dX3_round_23 rfl ?_
    refine e_callSi (n := 2) mX3_isNot [.int (nI r), .int 8] dX3_round_25 ckX3_80 rfl (by decide +kernel) rfl rfl (Nat.le_of_ble_eq_true rfl) ⟨Nat.zero_le _, Nat.zero_le _⟩ (s_notN m (nI r) 8 8 rfl) (fun v25 m2 hm2 => ?_)
    rcases hm2 with ⟨rfl, ⟨rfl, q1⟩ | ⟨rfl, q1⟩⟩
    · exact False.elim (q1 (inN_nI (by decide) hr))
    · have q1 := Classical.not_not.mp q1
      refine e_if_ne 41 dX3_round_28 (by decide) (fun h => absurd h (by decide)) (fun c28 => ?_)
      refine e_iload dX3_round_31 rfl ?_
      refine e_bipush (v := 17) dX3_round_33 rfl ?_
      refine e_callSi (n := 2) mX3_isNot [.int (nI n), .int 17] dX3_round_35 ckX3_80 rfl (by decide +kernel) rfl rfl (Nat.le_of_ble_eq_true rfl) ⟨Nat.zero_le _, Nat.zero_le _⟩ (s_notN m (nI n) 17 17 rfl) (fun v35 m3 hm3 => ?_)
      rcases hm3 with ⟨rfl, ⟨rfl, q2⟩ | ⟨rfl, q2⟩⟩
      · exact False.elim (q2 (inN_nI (by decide) (by omega)))
      · have q2 := Classical.not_not.mp q2
        refine e_if_eq 44 dX3_round_38 (by decide) (fun c38 => ?_) (fun h => absurd h (by decide))
        refine e_aload_n dX3_round_44 rfl ?_
        refine e_aload_n dX3_round_45 rfl ?_
        refine e_getR (o := 1) (b := 1) dX3_round_46 lkX3_11 rfl rfl (by decide) rfl ?_
        refine e_iload_n dX3_round_49 rfl ?_
        refine e_aald (b := 2 + 2 * r) dX3_round_50 rfl (by decide) r rfl (by omega) (by decide) rfl ?_
        refine e_iload_n dX3_round_51 rfl ?_
        refine e_iload dX3_round_52 rfl ?_
        refine e_callVi (n := 3) mX3_takeTune [.ref (2 + 2 * r), .int i, .int (nI n)] dX3_round_54 ckX3_198 rfl (by decide +kernel) rfl rfl rfl rfl (Nat.le_of_ble_eq_true rfl) ⟨Nat.zero_le _, Nat.zero_le _⟩ (s_takeF m r hr n (by omega) i hrw htn) (fun v54 mt hmt => ?_)
        obtain ⟨rfl, hl⟩ := hmt
        refine e_istore (L' := [some (.ref 0), some (.int (nI d)), some (.int (nI r)), some (.int i), some (.int (nI n)), some (.int (lackV m r i n))]) dX3_round_57 (Nat.le_of_ble_eq_true rfl) (Nat.le_of_ble_eq_true rfl) (jnl_at (i := 4) rfl) rfl ?_
        refine e_iload dX3_round_59 rfl ?_
        refine e_if_eq 67 dX3_round_61 (by decide) (fun h => absurd h (lackV_ne0 m r i n)) (fun c61 => ?_)
        refine e_iload dX3_round_64 rfl ?_
        exact e_iret dX3_round_66 rfl (⟨rfl, hl⟩)

set_option maxHeartbeats 2000000 in
set_option maxRecDepth 20000 in
theorem s_Jround (m : jM) (st : Nat → Int32) (V P : Nat) (hW : WK st V P) (hR : RK m 20 st V P) (h01 : m 20 0 = 1) (d : Nat) (hd : d ≤ 8) (r : Nat) (hr : r < 8) (n : Nat) (hn : n ≤ 16) (i k : Nat) (h0 : m (2 + 2 * r) 0 = 1) (hk : k ≤ 40) (h2 : m (2 + 2 * r) 2 = nI k) (hik : i + n ≤ k) (hg : goodB (m (2 + 2 * r + 1)) i n = true) (tn : Nat → Int32) (htn : ∀ j, j < n → m (2 + 2 * r + 1) (i + j) = tn j) : iX mX3_round [.ref 0, .int (nI d), .int (nI r), .int (nI i), .int (nI n)] m (fun v m1 => v = setB (roundB st tn d n V P (rlen d n V)) P ∧ SQ m m1 ∧ m1 0 17 = 0) := by
  have hV := hW.v3
  have hP := hW.p5
  have hto : ∀ j, j < n → ∃ a, a < 8 ∧ tn j = nI a := fun j hj => by rw [← htn j hj]; exact goodB_ok hg j hj
  refine jX_of (L := [some (.ref 0), some (.int (nI d)), some (.int (nI r)), some (.int (nI i)), some (.int (nI n)), none]) 1 rfl rfl (by decide +kernel) rfl ?_
  refine e_aload_n dX3_round_0 rfl ?_
  refine e_getR (o := 20) (b := 20) dX3_round_1 lkX3_25 rfl rfl (by decide) rfl ?_
  refine e_getI dX3_round_4 lkX3_143 rfl rfl ?_
  rw [show m 20 0 = 1 from h01]
  refine e_if_ne 13 dX3_round_7 (by decide) (fun c7 => ?_) (fun h => absurd h (by decide))
  refine e_iload_n dX3_round_13 rfl ?_
  refine e_bipush (v := 9) dX3_round_14 rfl ?_
  refine e_callSi (n := 2) mX3_isNot [.int (nI d), .int 9] dX3_round_16 ckX3_80 rfl (by decide +kernel) rfl rfl (Nat.le_of_ble_eq_true rfl) ⟨Nat.zero_le _, Nat.zero_le _⟩ (s_notN m (nI d) 9 9 rfl) (fun v16 m1 hm1 => ?_)
  rcases hm1 with ⟨rfl, ⟨rfl, q⟩ | ⟨rfl, q⟩⟩
  · exact False.elim (q (inN_nI (by decide) (by omega)))
  · have q := Classical.not_not.mp q
    refine e_if_ne 41 dX3_round_19 (by decide) (fun h => absurd h (by decide)) (fun c19 => ?_)
    refine e_iload_n dX3_round_22 rfl ?_
    refine e_bipush (v := 8) dX3_round_23 rfl ?_
    refine e_callSi (n := 2) mX3_isNot [.int (nI r), .int 8] dX3_round_25 ckX3_80 rfl (by decide +kernel) rfl rfl (Nat.le_of_ble_eq_true rfl) ⟨Nat.zero_le _, Nat.zero_le _⟩ (s_notN m (nI r) 8 8 rfl) (fun v25 m2 hm2 => ?_)
    rcases hm2 with ⟨rfl, ⟨rfl, q1⟩ | ⟨rfl, q1⟩⟩
    · exact False.elim (q1 (inN_nI (by decide) hr))
    · have q1 := Classical.not_not.mp q1
      refine e_if_ne 41 dX3_round_28 (by decide) (fun h => absurd h (by decide)) (fun c28 => ?_)
      refine e_iload dX3_round_31 rfl ?_
      refine e_bipush (v := 17) dX3_round_33 rfl ?_
      refine e_callSi (n := 2) mX3_isNot [.int (nI n), .int 17] dX3_round_35 ckX3_80 rfl (by decide +kernel) rfl rfl (Nat.le_of_ble_eq_true rfl) ⟨Nat.zero_le _, Nat.zero_le _⟩ (s_notN m (nI n) 17 17 rfl) (fun v35 m3 hm3 => ?_)
      rcases hm3 with ⟨rfl, ⟨rfl, q2⟩ | ⟨rfl, q2⟩⟩
      · exact False.elim (q2 (inN_nI (by decide) (by omega)))
      · have q2 := Classical.not_not.mp q2
        refine e_if_eq 44 dX3_round_38 (by decide) (fun c38 => ?_) (fun h => absurd h (by decide))
        refine e_aload_n dX3_round_44 rfl ?_
        refine e_aload_n dX3_round_45 rfl ?_
        refine e_getR (o := 1) (b := 1) dX3_round_46 lkX3_11 rfl rfl (by decide) rfl ?_
        refine e_iload_n dX3_round_49 rfl ?_
        refine e_aald (b := 2 + 2 * r) dX3_round_50 rfl (by decide) r rfl (by omega) (by decide) rfl ?_
        refine e_iload_n dX3_round_51 rfl ?_
        refine e_iload dX3_round_52 rfl ?_
        refine e_callVi (n := 3) mX3_takeTune [.ref (2 + 2 * r), .int (nI i), .int (nI n)] dX3_round_54 ckX3_198 rfl (by decide +kernel) rfl rfl rfl rfl (Nat.le_of_ble_eq_true rfl) ⟨Nat.zero_le _, Nat.zero_le _⟩ (s_take m r hr n (by omega) i k h0 hk h2 hik) (fun v54 mt hmt => ?_)
        obtain ⟨ev, ⟨ft, eft⟩, e91⟩ := hmt
        rw [if_pos hg] at ev
        subst ev
        have h91 : ∀ j, j < n → mt 91 j = tn j := fun j hj => (e91 hg j hj).trans (htn j hj)
        have hq : SQ m mt := by rw [← eft]; exact SQ.p m ft
        refine e_istore (L' := [some (.ref 0), some (.int (nI d)), some (.int (nI r)), some (.int (nI i)), some (.int (nI n)), some (.int 0)]) dX3_round_57 (Nat.le_of_ble_eq_true rfl) (Nat.le_of_ble_eq_true rfl) (jnl_at (i := 4) rfl) rfl ?_
        refine e_iload dX3_round_59 rfl ?_
        refine e_if_eq 67 dX3_round_61 (by decide) (fun c61 => ?_) (fun h => absurd h (by decide))
        refine e_aload_n dX3_round_67 rfl ?_
        refine e_getR (o := 31) (b := 31) dX3_round_68 lkX3_29 rfl rfl (by decide) rfl ?_
        refine e_aload_n dX3_round_71 rfl ?_
        refine e_getR (o := 20) (b := 20) dX3_round_72 lkX3_25 rfl rfl (by decide) rfl ?_
        refine e_callVv (n := 1) mX0_takeFrom [.ref 20] dX3_round_75 ckX3_137 rfl (by decide +kernel) rfl rfl rfl rfl (Nat.le_of_ble_eq_true rfl) ⟨Nat.zero_le _, Nat.zero_le _⟩ (s_trial _ mt hq st V P hW hR (Or.inr h01)) (fun mu hmu => ?_)
        obtain ⟨hRu, hqu, eu⟩ := hmu
        refine e_aload_n dX3_round_78 rfl ?_
        refine e_iload_n dX3_round_79 rfl ?_
        refine e_iload dX3_round_80 rfl ?_
        refine e_callVv (n := 2) mX3_tryRound [.int (nI d), .int (nI n)] dX3_round_82 ckX3_206 rfl (by decide +kernel) rfl rfl rfl rfl (Nat.le_of_ble_eq_true rfl) ⟨Nat.zero_le _, Nat.zero_le _⟩ (s_rnd _ mu hqu (st) V P hW hRu d hd n (by omega) tn (fun j hj => by rw [eu]; exact h91 j hj) hto) (fun mv hmv => ?_)
        obtain ⟨hRv, hqv, e91v⟩ := hmv
        refine e_aload_n dX3_round_85 rfl ?_
        refine e_aload_n dX3_round_86 rfl ?_
        refine e_getR (o := 31) (b := 31) dX3_round_87 lkX3_29 rfl rfl (by decide) rfl ?_
        refine e_callVi (n := 0) mX0_setPans [] dX3_round_90 ckX3_160 rfl (by decide +kernel) rfl rfl rfl rfl (Nat.le_of_ble_eq_true rfl) ⟨Nat.zero_le _, Nat.zero_le _⟩ (s_CsetPans 31 k31 mv (roundB st tn d n V P (rlen d n V)) V P (hW.round hto _) hRv) (fun v90 m7 hm7 => ?_)
        obtain ⟨rfl, rfl⟩ := hm7
        refine e_callVi (n := 1) mX3_fine [.int (setB (roundB st tn d n V P (rlen d n V)) P)] dX3_round_93 ckX3_93 rfl (by decide +kernel) rfl rfl rfl rfl (Nat.le_of_ble_eq_true rfl) ⟨Nat.zero_le _, Nat.zero_le _⟩ (s_fine mv (setB (roundB st tn d n V P (rlen d n V)) P)) (fun v93 mw hmw => ?_)
        obtain ⟨rfl, hw⟩ := hmw
        exact e_iret dX3_round_96 rfl (⟨rfl, by rw [← hw]; exact hqv.tr (SQ.s _ 0), by rw [← hw, jup_s, upd_s]⟩)

set_option maxHeartbeats 2000000 in
set_option maxRecDepth 20000 in
theorem s_Jbest_s (m : jM) (y i z w : Int32) (h0 : m 20 0 = 0) : iX mX3_bestRound [.ref 0, .int y, .int i, .int z, .int w] m (fun v m1 => v = -1000002 ∧ m = m1) := by
  refine jX_of (L := [some (.ref 0), some (.int y), some (.int i), some (.int z), some (.int w), none, none, none, none, none]) 5 rfl rfl (by decide +kernel) rfl ?_
  refine e_aload_n dX3_bestRound_0 rfl ?_
  refine e_getR (o := 20) (b := 20) dX3_bestRound_1 lkX3_25 rfl rfl (by decide) rfl ?_
  refine e_getI dX3_bestRound_4 lkX3_143 rfl rfl ?_
  rw [show m 20 0 = 0 from h0]
  refine e_if_ne 13 dX3_bestRound_7 (by decide) (fun h => absurd rfl h) (fun c7 => ?_)
  refine e_ldc dX3_bestRound_10 kkX3_146 ?_
  exact e_iret dX3_bestRound_12 rfl (⟨rfl, rfl⟩)

set_option maxHeartbeats 2000000 in
set_option maxRecDepth 20000 in
theorem s_Jbest_b (m : jM) (y i z w : Int32) (h01 : m 20 0 = 1) (hb : ¬ (inN y 8 ∧ inN z 17 ∧ inN w 2)) : iX mX3_bestRound [.ref 0, .int y, .int i, .int z, .int w] m (fun v m1 => v = -1000001 ∧ m = m1) := by
  refine jX_of (L := [some (.ref 0), some (.int y), some (.int i), some (.int z), some (.int w), none, none, none, none, none]) 5 rfl rfl (by decide +kernel) rfl ?_
  refine e_aload_n dX3_bestRound_0 rfl ?_
  refine e_getR (o := 20) (b := 20) dX3_bestRound_1 lkX3_25 rfl rfl (by decide) rfl ?_
  refine e_getI dX3_bestRound_4 lkX3_143 rfl rfl ?_
  rw [show m 20 0 = 1 from h01]
  refine e_if_ne 13 dX3_bestRound_7 (by decide) (fun c7 => ?_) (fun h => absurd h (by decide))
  refine e_iload_n dX3_bestRound_13 rfl ?_
  refine e_bipush (v := 8) dX3_bestRound_14 rfl ?_
  refine e_callSi (n := 2) mX3_isNot [.int y, .int 8] dX3_bestRound_16 ckX3_80 rfl (by decide +kernel) rfl rfl (Nat.le_of_ble_eq_true rfl) ⟨Nat.zero_le _, Nat.zero_le _⟩ (s_notN m y 8 8 rfl) (fun v16 m1 hm1 => ?_)
  rcases hm1 with ⟨rfl, ⟨rfl, q⟩ | ⟨rfl, q⟩⟩
  · refine e_if_ne 40 dX3_bestRound_19 (by decide) (fun c19 => ?_) (fun h => absurd h (by decide))
    refine e_ldc dX3_bestRound_40 kkX3_84 ?_
    exact e_iret dX3_bestRound_42 rfl (⟨rfl, rfl⟩)
  · have q := Classical.not_not.mp q
    refine e_if_ne 40 dX3_bestRound_19 (by decide) (fun h => absurd h (by decide)) (fun c19 => ?_)
    refine e_iload_n dX3_bestRound_22 rfl ?_
    refine e_bipush (v := 17) dX3_bestRound_23 rfl ?_
    refine e_callSi (n := 2) mX3_isNot [.int z, .int 17] dX3_bestRound_25 ckX3_80 rfl (by decide +kernel) rfl rfl (Nat.le_of_ble_eq_true rfl) ⟨Nat.zero_le _, Nat.zero_le _⟩ (s_notN m z 17 17 rfl) (fun v25 m2 hm2 => ?_)
    rcases hm2 with ⟨rfl, ⟨rfl, q1⟩ | ⟨rfl, q1⟩⟩
    · refine e_if_ne 40 dX3_bestRound_28 (by decide) (fun c28 => ?_) (fun h => absurd h (by decide))
      refine e_ldc dX3_bestRound_40 kkX3_84 ?_
      exact e_iret dX3_bestRound_42 rfl (⟨rfl, rfl⟩)
    · have q1 := Classical.not_not.mp q1
      refine e_if_ne 40 dX3_bestRound_28 (by decide) (fun h => absurd h (by decide)) (fun c28 => ?_)
      refine e_iload dX3_bestRound_31 rfl ?_
      refine e_iconst (v := 2) dX3_bestRound_33 rfl ?_
      refine e_callSi (n := 2) mX3_isNot [.int w, .int 2] dX3_bestRound_34 ckX3_80 rfl (by decide +kernel) rfl rfl (Nat.le_of_ble_eq_true rfl) ⟨Nat.zero_le _, Nat.zero_le _⟩ (s_notN m w 2 2 rfl) (fun v34 m3 hm3 => ?_)
      rcases hm3 with ⟨rfl, ⟨rfl, q2⟩ | ⟨rfl, q2⟩⟩
      · refine e_if_eq 43 dX3_bestRound_37 (by decide) (fun h => absurd h (by decide)) (fun c37 => ?_)
        refine e_ldc dX3_bestRound_40 kkX3_84 ?_
        exact e_iret dX3_bestRound_42 rfl (⟨rfl, rfl⟩)
      · have q2 := Classical.not_not.mp q2
        exact False.elim (hb ⟨q, q1, q2⟩)

set_option maxHeartbeats 2000000 in
set_option maxRecDepth 20000 in
theorem s_Jbest_f (m : jM) (h01 : m 20 0 = 1) (r : Nat) (hr : r < 8) (n : Nat) (hn : n ≤ 16) (w : Int32) (hw2 : inN w 2) (i : Int32) (hrw : RW m r) (htn : ¬ tuneOK m r i n) : iX mX3_bestRound [.ref 0, .int (nI r), .int i, .int (nI n), .int w] m (fun v m1 => v = lackV m r i n ∧ SQ m m1 ∧ m1 0 17 = lackX m r i n) := by
  refine jX_of (L := [some (.ref 0), some (.int (nI r)), some (.int i), some (.int (nI n)), some (.int w), none, none, none, none, none]) 5 rfl rfl (by decide +kernel) rfl ?_
  refine e_aload_n dX3_bestRound_0 rfl ?_
  refine e_getR (o := 20) (b := 20) dX3_bestRound_1 lkX3_25 rfl rfl (by decide) rfl ?_
  refine e_getI dX3_bestRound_4 lkX3_143 rfl rfl ?_
  rw [show m 20 0 = 1 from h01]
  refine e_if_ne 13 dX3_bestRound_7 (by decide) (fun c7 => ?_) (fun h => absurd h (by decide))
  refine e_iload_n dX3_bestRound_13 rfl ?_
  refine e_bipush (v := 8) dX3_bestRound_14 rfl ?_
  refine e_callSi (n := 2) mX3_isNot [.int (nI r), .int 8] dX3_bestRound_16 ckX3_80 rfl (by decide +kernel) rfl rfl (Nat.le_of_ble_eq_true rfl) ⟨Nat.zero_le _, Nat.zero_le _⟩ (s_notN m (nI r) 8 8 rfl) (fun v16 m1 hm1 => ?_)
  rcases hm1 with ⟨rfl, ⟨rfl, q1⟩ | ⟨rfl, q1⟩⟩
  · exact False.elim (q1 (inN_nI (by decide) hr))
  · have q1 := Classical.not_not.mp q1
    refine e_if_ne 40 dX3_bestRound_19 (by decide) (fun h => absurd h (by decide)) (fun c19 => ?_)
    refine e_iload_n dX3_bestRound_22 rfl ?_
    refine e_bipush (v := 17) dX3_bestRound_23 rfl ?_
    refine e_callSi (n := 2) mX3_isNot [.int (nI n), .int 17] dX3_bestRound_25 ckX3_80 rfl (by decide +kernel) rfl rfl (Nat.le_of_ble_eq_true rfl) ⟨Nat.zero_le _, Nat.zero_le _⟩ (s_notN m (nI n) 17 17 rfl) (fun v25 m2 hm2 => ?_)
    rcases hm2 with ⟨rfl, ⟨rfl, q2⟩ | ⟨rfl, q2⟩⟩
    · exact False.elim (q2 (inN_nI (by decide) (by omega)))
    · have q2 := Classical.not_not.mp q2
      refine e_if_ne 40 dX3_bestRound_28 (by decide) (fun h => absurd h (by decide)) (fun c28 => ?_)
      refine e_iload dX3_bestRound_31 rfl ?_
      refine e_iconst (v := 2) dX3_bestRound_33 rfl ?_
      refine e_callSi (n := 2) mX3_isNot [.int w, .int 2] dX3_bestRound_34 ckX3_80 rfl (by decide +kernel) rfl rfl (Nat.le_of_ble_eq_true rfl) ⟨Nat.zero_le _, Nat.zero_le _⟩ (s_notN m w 2 2 rfl) (fun v34 m3 hm3 => ?_)
      rcases hm3 with ⟨rfl, ⟨rfl, q3⟩ | ⟨rfl, q3⟩⟩
      · exact False.elim (q3 (hw2))
      · have q3 := Classical.not_not.mp q3
        refine e_if_eq 43 dX3_bestRound_37 (by decide) (fun c37 => ?_) (fun h => absurd h (by decide))
        refine e_aload_n dX3_bestRound_43 rfl ?_
        refine e_aload_n dX3_bestRound_44 rfl ?_
        refine e_getR (o := 1) (b := 1) dX3_bestRound_45 lkX3_11 rfl rfl (by decide) rfl ?_
        refine e_iload_n dX3_bestRound_48 rfl ?_
        refine e_aald (b := 2 + 2 * r) dX3_bestRound_49 rfl (by decide) r rfl (by omega) (by decide) rfl ?_
        refine e_iload_n dX3_bestRound_50 rfl ?_
        refine e_iload_n dX3_bestRound_51 rfl ?_
        refine e_callVi (n := 3) mX3_takeTune [.ref (2 + 2 * r), .int i, .int (nI n)] dX3_bestRound_52 ckX3_198 rfl (by decide +kernel) rfl rfl rfl rfl (Nat.le_of_ble_eq_true rfl) ⟨Nat.zero_le _, Nat.zero_le _⟩ (s_takeF m r hr n (by omega) i hrw htn) (fun v52 mt hmt => ?_)
        obtain ⟨rfl, hl⟩ := hmt
        refine e_istore (L' := [some (.ref 0), some (.int (nI r)), some (.int i), some (.int (nI n)), some (.int w), some (.int (lackV m r i n)), none, none, none, none]) dX3_bestRound_55 (Nat.le_of_ble_eq_true rfl) (Nat.le_of_ble_eq_true rfl) (jnl_at (i := 4) rfl) rfl ?_
        refine e_iload dX3_bestRound_57 rfl ?_
        refine e_if_eq 65 dX3_bestRound_59 (by decide) (fun h => absurd h (lackV_ne0 m r i n)) (fun c59 => ?_)
        refine e_iload dX3_bestRound_62 rfl ?_
        exact e_iret dX3_bestRound_64 rfl (⟨rfl, hl⟩)

set_option maxHeartbeats 2000000 in
set_option maxRecDepth 20000 in
theorem s_Jbest (m : jM) (st : Nat → Int32) (V P : Nat) (hW : WK st V P) (hR : RK m 20 st V P) (h01 : m 20 0 = 1) (w : Int32) (hw2 : inN w 2) (r : Nat) (hr : r < 8) (n : Nat) (hn : n ≤ 16) (i k : Nat) (h0 : m (2 + 2 * r) 0 = 1) (hk : k ≤ 40) (h2 : m (2 + 2 * r) 2 = nI k) (hik : i + n ≤ k) (hg : goodB (m (2 + 2 * r + 1)) i n = true) (tn : Nat → Int32) (htn : ∀ j, j < n → m (2 + 2 * r + 1) (i + j) = tn j) : iX mX3_bestRound [.ref 0, .int (nI r), .int (nI i), .int (nI n), .int w] m (fun v m1 => v = (if w = 0 then nI (bestR st tn n V P 9).1 else (bestR st tn n V P 9).2) ∧ SQ m m1 ∧ m1 0 17 = 0) := by
  have hV := hW.v3
  have hP := hW.p5
  have hto : ∀ j, j < n → ∃ a, a < 8 ∧ tn j = nI a := fun j hj => by rw [← htn j hj]; exact goodB_ok hg j hj
  refine jX_of (L := [some (.ref 0), some (.int (nI r)), some (.int (nI i)), some (.int (nI n)), some (.int w), none, none, none, none, none]) 5 rfl rfl (by decide +kernel) rfl ?_
  refine e_aload_n dX3_bestRound_0 rfl ?_
  refine e_getR (o := 20) (b := 20) dX3_bestRound_1 lkX3_25 rfl rfl (by decide) rfl ?_
  refine e_getI dX3_bestRound_4 lkX3_143 rfl rfl ?_
  rw [show m 20 0 = 1 from h01]
  refine e_if_ne 13 dX3_bestRound_7 (by decide) (fun c7 => ?_) (fun h => absurd h (by decide))
  refine e_iload_n dX3_bestRound_13 rfl ?_
  refine e_bipush (v := 8) dX3_bestRound_14 rfl ?_
  refine e_callSi (n := 2) mX3_isNot [.int (nI r), .int 8] dX3_bestRound_16 ckX3_80 rfl (by decide +kernel) rfl rfl (Nat.le_of_ble_eq_true rfl) ⟨Nat.zero_le _, Nat.zero_le _⟩ (s_notN m (nI r) 8 8 rfl) (fun v16 m1 hm1 => ?_)
  rcases hm1 with ⟨rfl, ⟨rfl, q1⟩ | ⟨rfl, q1⟩⟩
  · exact False.elim (q1 (inN_nI (by decide) hr))
  · have q1 := Classical.not_not.mp q1
    refine e_if_ne 40 dX3_bestRound_19 (by decide) (fun h => absurd h (by decide)) (fun c19 => ?_)
    refine e_iload_n dX3_bestRound_22 rfl ?_
    refine e_bipush (v := 17) dX3_bestRound_23 rfl ?_
    refine e_callSi (n := 2) mX3_isNot [.int (nI n), .int 17] dX3_bestRound_25 ckX3_80 rfl (by decide +kernel) rfl rfl (Nat.le_of_ble_eq_true rfl) ⟨Nat.zero_le _, Nat.zero_le _⟩ (s_notN m (nI n) 17 17 rfl) (fun v25 m2 hm2 => ?_)
    rcases hm2 with ⟨rfl, ⟨rfl, q2⟩ | ⟨rfl, q2⟩⟩
    · exact False.elim (q2 (inN_nI (by decide) (by omega)))
    · have q2 := Classical.not_not.mp q2
      refine e_if_ne 40 dX3_bestRound_28 (by decide) (fun h => absurd h (by decide)) (fun c28 => ?_)
      refine e_iload dX3_bestRound_31 rfl ?_
      refine e_iconst (v := 2) dX3_bestRound_33 rfl ?_
      refine e_callSi (n := 2) mX3_isNot [.int w, .int 2] dX3_bestRound_34 ckX3_80 rfl (by decide +kernel) rfl rfl (Nat.le_of_ble_eq_true rfl) ⟨Nat.zero_le _, Nat.zero_le _⟩ (s_notN m w 2 2 rfl) (fun v34 m3 hm3 => ?_)
      rcases hm3 with ⟨rfl, ⟨rfl, q3⟩ | ⟨rfl, q3⟩⟩
      · exact False.elim (q3 (hw2))
      · have q3 := Classical.not_not.mp q3
        refine e_if_eq 43 dX3_bestRound_37 (by decide) (fun c37 => ?_) (fun h => absurd h (by decide))
        refine e_aload_n dX3_bestRound_43 rfl ?_
        refine e_aload_n dX3_bestRound_44 rfl ?_
        refine e_getR (o := 1) (b := 1) dX3_bestRound_45 lkX3_11 rfl rfl (by decide) rfl ?_
        refine e_iload_n dX3_bestRound_48 rfl ?_
        refine e_aald (b := 2 + 2 * r) dX3_bestRound_49 rfl (by decide) r rfl (by omega) (by decide) rfl ?_
        refine e_iload_n dX3_bestRound_50 rfl ?_
        refine e_iload_n dX3_bestRound_51 rfl ?_
        refine e_callVi (n := 3) mX3_takeTune [.ref (2 + 2 * r), .int (nI i), .int (nI n)] dX3_bestRound_52 ckX3_198 rfl (by decide +kernel) rfl rfl rfl rfl (Nat.le_of_ble_eq_true rfl) ⟨Nat.zero_le _, Nat.zero_le _⟩ (s_take m r hr n (by omega) i k h0 hk h2 hik) (fun v52 mt hmt => ?_)
        obtain ⟨ev, ⟨ft, eft⟩, e91⟩ := hmt
        rw [if_pos hg] at ev
        subst ev
        have h91 : ∀ j, j < n → mt 91 j = tn j := fun j hj => (e91 hg j hj).trans (htn j hj)
        have hq : SQ m mt := by rw [← eft]; exact SQ.p m ft
        refine e_istore (L' := [some (.ref 0), some (.int (nI r)), some (.int (nI i)), some (.int (nI n)), some (.int w), some (.int 0), none, none, none, none]) dX3_bestRound_55 (Nat.le_of_ble_eq_true rfl) (Nat.le_of_ble_eq_true rfl) (jnl_at (i := 4) rfl) rfl ?_
        refine e_iload dX3_bestRound_57 rfl ?_
        refine e_if_eq 65 dX3_bestRound_59 (by decide) (fun c59 => ?_) (fun h => absurd h (by decide))
        refine e_iconst (v := 0) dX3_bestRound_65 rfl ?_
        refine e_istore (L' := [some (.ref 0), some (.int (nI r)), some (.int (nI i)), some (.int (nI n)), some (.int w), some (.int 0), some (.int 0), none, none, none]) dX3_bestRound_66 (Nat.le_of_ble_eq_true rfl) (Nat.le_of_ble_eq_true rfl) (jnl_at (i := 5) rfl) rfl ?_
        refine e_iconst (v := -1) dX3_bestRound_68 rfl ?_
        refine e_istore (L' := [some (.ref 0), some (.int (nI r)), some (.int (nI i)), some (.int (nI n)), some (.int w), some (.int 0), some (.int 0), some (.int (-1)), none, none]) dX3_bestRound_69 (Nat.le_of_ble_eq_true rfl) (Nat.le_of_ble_eq_true rfl) (jnl_at (i := 6) rfl) rfl ?_
        refine e_iconst (v := 0) dX3_bestRound_71 rfl ?_
        refine e_istore (L' := [some (.ref 0), some (.int (nI r)), some (.int (nI i)), some (.int (nI n)), some (.int w), some (.int 0), some (.int 0), some (.int (-1)), some (.int 0), none]) dX3_bestRound_72 (Nat.le_of_ble_eq_true rfl) (Nat.le_of_ble_eq_true rfl) (jnl_at (i := 7) rfl) rfl ?_
        refine e_loopS (σ := Unit) 74 9 (fun u _ => [some (.ref 0), some (.int (nI r)), some (.int (nI i)), some (.int (nI n)), some (.int w), some (.int 0), some (.int (nI (bestR st tn n V P u).1)), some (.int ((bestR st tn n V P u).2)), some (.int (nI u)), none]) (fun u _ mm => SQ m mm ∧ ∀ j, j < n → mm 91 j = tn j) 0 () (Nat.zero_le _) rfl (⟨hq, h91⟩) ?_ ?_
        · intro _ mm hI
          show jE _ _ 74 [some (.ref 0), some (.int (nI r)), some (.int (nI i)), some (.int (nI n)), some (.int w), some (.int 0), some (.int (nI (bestR st tn n V P 9).1)), some (.int ((bestR st tn n V P 9).2)), some (.int (nI 9)), none] [] mm
          obtain ⟨hqm, h91⟩ := hI
          refine e_iload dX3_bestRound_74 rfl ?_
          refine e_bipush (v := 8) dX3_bestRound_76 rfl ?_
          refine e_icmp_gt 132 dX3_bestRound_78 (by decide) (fun c78 => ?_) (fun h => absurd (by decide : (8 : Int32) < nI 9) h)
          refine e_aload_n dX3_bestRound_132 rfl ?_
          refine e_iload dX3_bestRound_133 rfl ?_
          refine e_if_ne 143 dX3_bestRound_135 (by decide) (fun c135 => ?_) (fun c135 => ?_)
          · refine e_iload dX3_bestRound_143 rfl ?_
            refine e_callVi (n := 1) mX3_fine [.int ((bestR st tn n V P 9).2)] dX3_bestRound_145 ckX3_93 rfl (by decide +kernel) rfl rfl rfl rfl (Nat.le_of_ble_eq_true rfl) ⟨Nat.zero_le _, Nat.zero_le _⟩ (s_fine mm ((bestR st tn n V P 9).2)) (fun v145 mw hmw => ?_)
            obtain ⟨rfl, hw⟩ := hmw
            exact e_iret dX3_bestRound_148 rfl (⟨by first | rw [if_pos (by first | exact c135 | exact Classical.byContradiction c135)] | rw [if_neg c135], by rw [← hw]; exact hqm.tr (SQ.s _ 0), by rw [← hw, jup_s, upd_s]⟩)
          · refine e_iload dX3_bestRound_138 rfl ?_
            refine e_goto 145 dX3_bestRound_140 (by decide) ?_
            refine e_callVi (n := 1) mX3_fine [.int (nI (bestR st tn n V P 9).1)] dX3_bestRound_145 ckX3_93 rfl (by decide +kernel) rfl rfl rfl rfl (Nat.le_of_ble_eq_true rfl) ⟨Nat.zero_le _, Nat.zero_le _⟩ (s_fine mm (nI (bestR st tn n V P 9).1)) (fun v145 mw hmw => ?_)
            obtain ⟨rfl, hw⟩ := hmw
            exact e_iret dX3_bestRound_148 rfl (⟨by first | rw [if_pos (by first | exact c135 | exact Classical.byContradiction c135)] | rw [if_neg c135], by rw [← hw]; exact hqm.tr (SQ.s _ 0), by rw [← hw, jup_s, upd_s]⟩)
        · intro u hk_ _ mm hI ih
          show jE _ _ 74 [some (.ref 0), some (.int (nI r)), some (.int (nI i)), some (.int (nI n)), some (.int w), some (.int 0), some (.int (nI (bestR st tn n V P u).1)), some (.int ((bestR st tn n V P u).2)), some (.int (nI u)), none] [] mm
          obtain ⟨hqm, h91⟩ := hI
          have hu9 := hk_
          refine e_iload dX3_bestRound_74 rfl ?_
          refine e_bipush (v := 8) dX3_bestRound_76 rfl ?_
          refine e_icmp_gt 132 dX3_bestRound_78 (by decide) (fun h => absurd ((j_lt (a := 8) (b := u) (by decide) (by omega)).mp h) (by omega)) (fun c78 => ?_)
          refine e_aload_n dX3_bestRound_81 rfl ?_
          refine e_getR (o := 31) (b := 31) dX3_bestRound_82 lkX3_29 rfl rfl (by decide) rfl ?_
          refine e_aload_n dX3_bestRound_85 rfl ?_
          refine e_getR (o := 20) (b := 20) dX3_bestRound_86 lkX3_25 rfl rfl (by decide) rfl ?_
          refine e_callVv (n := 1) mX0_takeFrom [.ref 20] dX3_bestRound_89 ckX3_137 rfl (by decide +kernel) rfl rfl rfl rfl (Nat.le_of_ble_eq_true rfl) ⟨Nat.zero_le _, Nat.zero_le _⟩ (s_trial _ mm hqm st V P hW hR (Or.inr h01)) (fun mu hmu => ?_)
          obtain ⟨hRu, hqu, eu⟩ := hmu
          refine e_aload_n dX3_bestRound_92 rfl ?_
          refine e_iload dX3_bestRound_93 rfl ?_
          refine e_iload_n dX3_bestRound_95 rfl ?_
          refine e_callVv (n := 2) mX3_tryRound [.int (nI u), .int (nI n)] dX3_bestRound_96 ckX3_206 rfl (by decide +kernel) rfl rfl rfl rfl (Nat.le_of_ble_eq_true rfl) ⟨Nat.zero_le _, Nat.zero_le _⟩ (s_rnd _ mu hqu (st) V P hW hRu u (by omega) n (by omega) tn (fun j hj => by rw [eu]; exact h91 j hj) hto) (fun mv hmv => ?_)
          obtain ⟨hRv, hqv, e91v⟩ := hmv
          refine e_aload_n dX3_bestRound_99 rfl ?_
          refine e_getR (o := 31) (b := 31) dX3_bestRound_100 lkX3_29 rfl rfl (by decide) rfl ?_
          refine e_callVi (n := 0) mX0_setPans [] dX3_bestRound_103 ckX3_160 rfl (by decide +kernel) rfl rfl rfl rfl (Nat.le_of_ble_eq_true rfl) ⟨Nat.zero_le _, Nat.zero_le _⟩ (s_CsetPans 31 k31 mv (roundB st tn u n V P (rlen u n V)) V P (hW.round hto _) hRv) (fun v103 m9 hm9 => ?_)
          obtain ⟨rfl, rfl⟩ := hm9
          refine e_callSi (n := 1) mInt_bitCount [.int (setB (roundB st tn u n V P (rlen u n V)) P)] dX3_bestRound_106 ckX3_209 rfl (by decide +kernel) rfl rfl (Nat.le_of_ble_eq_true rfl) ⟨Nat.zero_le _, Nat.zero_le _⟩ (s_bitX mv (setB (roundB st tn u n V P (rlen u n V)) P)) (fun v106 m10 hm10 => ?_)
          obtain ⟨rfl, rfl⟩ := hm10
          rw [bc_set (hW.round hto _)]
          refine e_istore (L' := [some (.ref 0), some (.int (nI r)), some (.int (nI i)), some (.int (nI n)), some (.int w), some (.int 0), some (.int (nI (bestR st tn n V P u).1)), some (.int ((bestR st tn n V P u).2)), some (.int (nI u)), some (.int (nI (popc (setN (roundB st tn u n V P (rlen u n V)) P))))]) dX3_bestRound_109 (Nat.le_of_ble_eq_true rfl) (Nat.le_of_ble_eq_true rfl) (jnl_at (i := 8) rfl) rfl ?_
          refine e_iload dX3_bestRound_111 rfl ?_
          refine e_iload dX3_bestRound_113 rfl ?_
          refine e_icmp_le 126 dX3_bestRound_115 (by decide) (fun c115 => ?_) (fun c115 => ?_)
          · refine e_iinc (v := nI (u + 1)) (L' := [some (.ref 0), some (.int (nI r)), some (.int (nI i)), some (.int (nI n)), some (.int w), some (.int 0), some (.int (nI (bestR st tn n V P u).1)), some (.int ((bestR st tn n V P u).2)), some (.int (nI (u + 1))), some (.int (nI (popc (setN (roundB st tn u n V P (rlen u n V)) P))))]) dX3_bestRound_126 rfl (j_inc rfl) (by decide) (jnl_at (i := 7) rfl) rfl ?_
            refine e_goto 74 dX3_bestRound_129 (by decide) ?_
            refine e_weak [some (.ref 0), some (.int (nI r)), some (.int (nI i)), some (.int (nI n)), some (.int w), some (.int 0), some (.int (nI (bestR st tn n V P u).1)), some (.int ((bestR st tn n V P u).2)), some (.int (nI (u + 1))), none] (by simp [jle]) ?_
            have eB : bestR st tn n V P (u + 1) = bestR st tn n V P u := if_neg (Int32.not_lt.mpr c115)
            refine e_start (by simp only [eB]) rfl (ih () mv ⟨hqv, fun j hj => by rw [e91v, eu]; exact h91 j hj⟩)
          · refine e_iload dX3_bestRound_118 rfl ?_
            refine e_istore (L' := [some (.ref 0), some (.int (nI r)), some (.int (nI i)), some (.int (nI n)), some (.int w), some (.int 0), some (.int (nI (bestR st tn n V P u).1)), some (.int (nI (popc (setN (roundB st tn u n V P (rlen u n V)) P)))), some (.int (nI u)), some (.int (nI (popc (setN (roundB st tn u n V P (rlen u n V)) P))))]) dX3_bestRound_120 (Nat.le_of_ble_eq_true rfl) (Nat.le_of_ble_eq_true rfl) (jnl_at (i := 6) rfl) rfl ?_
            refine e_iload dX3_bestRound_122 rfl ?_
            refine e_istore (L' := [some (.ref 0), some (.int (nI r)), some (.int (nI i)), some (.int (nI n)), some (.int w), some (.int 0), some (.int (nI u)), some (.int (nI (popc (setN (roundB st tn u n V P (rlen u n V)) P)))), some (.int (nI u)), some (.int (nI (popc (setN (roundB st tn u n V P (rlen u n V)) P))))]) dX3_bestRound_124 (Nat.le_of_ble_eq_true rfl) (Nat.le_of_ble_eq_true rfl) (jnl_at (i := 5) rfl) rfl ?_
            refine e_iinc (v := nI (u + 1)) (L' := [some (.ref 0), some (.int (nI r)), some (.int (nI i)), some (.int (nI n)), some (.int w), some (.int 0), some (.int (nI u)), some (.int (nI (popc (setN (roundB st tn u n V P (rlen u n V)) P)))), some (.int (nI (u + 1))), some (.int (nI (popc (setN (roundB st tn u n V P (rlen u n V)) P))))]) dX3_bestRound_126 rfl (j_inc rfl) (by decide) (jnl_at (i := 7) rfl) rfl ?_
            refine e_goto 74 dX3_bestRound_129 (by decide) ?_
            refine e_weak [some (.ref 0), some (.int (nI r)), some (.int (nI i)), some (.int (nI n)), some (.int w), some (.int 0), some (.int (nI u)), some (.int (nI (popc (setN (roundB st tn u n V P (rlen u n V)) P)))), some (.int (nI (u + 1))), none] (by simp [jle]) ?_
            have eB : bestR st tn n V P (u + 1) = (u, nI (popc (setN (roundB st tn u n V P (rlen u n V)) P))) := if_pos (Int32.not_le.mp c115)
            refine e_start (by simp only [eB]) rfl (ih () mv ⟨hqv, fun j hj => by rw [e91v, eu]; exact h91 j hj⟩)

set_option maxHeartbeats 2000000 in
set_option maxRecDepth 20000 in
theorem s_setsW (m0 m : jM) (hq : SQ m0 m) (st : Nat → Int32) (V P : Nat) (hW : WK st V P) (hR : RK m0 20 st V P) (h01 : m0 20 0 = 1) (p : Nat) (hp : p < P) (z : Nat) (hz : z < 8) (d : Nat) (hd : d ≤ 8) (n : Nat) (hn : n ≤ 16) (tn : Nat → Int32) (h91 : ∀ j, j < n → m 91 j = tn j) (hto : ∀ j, j < n → ∃ a, a < 8 ∧ tn j = nI a) : iX mX3_setsWithout [.ref 0, .int (nI p), .int (nI z), .int (nI d), .int (nI n)] m (fun v m1 => isB v (shP st tn d n V P p z = true) ∧ SQ m0 m1 ∧ m1 91 = m 91) := by
  have hV := hW.v3
  have hP := hW.p5
  refine jX_of (L := [some (.ref 0), some (.int (nI p)), some (.int (nI z)), some (.int (nI d)), some (.int (nI n))]) 0 rfl rfl (by decide +kernel) rfl ?_
  refine e_aload_n dX3_setsWithout_0 rfl ?_
  refine e_getR (o := 31) (b := 31) dX3_setsWithout_1 lkX3_29 rfl rfl (by decide) rfl ?_
  refine e_aload_n dX3_setsWithout_4 rfl ?_
  refine e_getR (o := 20) (b := 20) dX3_setsWithout_5 lkX3_25 rfl rfl (by decide) rfl ?_
  refine e_callVv (n := 1) mX0_takeFrom [.ref 20] dX3_setsWithout_8 ckX3_137 rfl (by decide +kernel) rfl rfl rfl rfl (Nat.le_of_ble_eq_true rfl) ⟨Nat.zero_le _, Nat.zero_le _⟩ (s_trial _ m hq st V P hW hR (Or.inr h01)) (fun mu hmu => ?_)
  obtain ⟨hRu, hqu, eu⟩ := hmu
  refine e_aload_n dX3_setsWithout_11 rfl ?_
  refine e_getR (o := 31) (b := 31) dX3_setsWithout_12 lkX3_29 rfl rfl (by decide) rfl ?_
  refine e_getR (o := 8) (b := 39) dX3_setsWithout_15 lkX3_164 rfl rfl (by decide) rfl ?_
  refine e_iload_n dX3_setsWithout_18 rfl ?_
  refine e_dup2 dX3_setsWithout_19 rfl rfl ?_
  refine e_iald dX3_setsWithout_20 rfl p rfl (by omega) (by decide) ?_
  rw [show mu 39 p = st (31 + p) from hRu.hr p hp]
  refine e_iload_n dX3_setsWithout_21 rfl ?_
  refine e_iconst (v := -1) dX3_setsWithout_22 rfl ?_
  refine e_ixor dX3_setsWithout_23 ?_
  refine e_iand dX3_setsWithout_24 ?_
  refine e_iast dX3_setsWithout_25 rfl p rfl (by omega) (by decide) (fun mh hmh => ?_)
  refine e_aload_n dX3_setsWithout_26 rfl ?_
  refine e_iload_n dX3_setsWithout_27 rfl ?_
  refine e_iload dX3_setsWithout_28 rfl ?_
  have hWs : WK (upd st (31 + p) (st (31 + p) &&& (nI z ^^^ (-1)))) V P := hW.hrs hp (hr_out (hW.hr p hp) hz)
  have hRs : RK mh 31 (upd st (31 + p) (st (31 + p) &&& (nI z ^^^ (-1)))) V P := by rw [hmh]; exact hRu.w_hr hV hP hp _
  have hqs : SQ m0 mh := hqu.tr (SQ.k (fun c hc => by rw [hmh, jup_n _ _ (by omega)]))
  refine e_callVv (n := 2) mX3_tryRound [.int (nI d), .int (nI n)] dX3_setsWithout_30 ckX3_206 rfl (by decide +kernel) rfl rfl rfl rfl (Nat.le_of_ble_eq_true rfl) ⟨Nat.zero_le _, Nat.zero_le _⟩ (s_rnd _ mh hqs (upd st (31 + p) (st (31 + p) &&& (nI z ^^^ (-1)))) V P hWs hRs d hd n hn tn (fun j hj => by rw [hmh, jup_n _ _ (by decide), eu]; exact h91 j hj) hto) (fun mv hmv => ?_)
  obtain ⟨hRv, hqv, e91v⟩ := hmv
  refine e_aload_n dX3_setsWithout_33 rfl ?_
  refine e_getR (o := 31) (b := 31) dX3_setsWithout_34 lkX3_29 rfl rfl (by decide) rfl ?_
  refine e_iload_n dX3_setsWithout_37 rfl ?_
  refine e_callVi (n := 1) mX0_isSet [.int (nI p)] dX3_setsWithout_38 ckX3_179 rfl (by decide +kernel) rfl rfl rfl rfl (Nat.le_of_ble_eq_true rfl) ⟨Nat.zero_le _, Nat.zero_le _⟩ (s_Cset 31 k31 mv _ V P hP hRv p hp) (fun v38 m4 hm4 => ?_)
  rcases hm4 with ⟨rfl, ⟨rfl, q⟩ | ⟨rfl, q⟩⟩
  · exact e_zret dX3_setsWithout_41 rfl (by first | exact Or.inl rfl | exact Or.inr rfl) (⟨by first | exact isB.t (decide_eq_true (((hWs.round hto _).set41 hp).mpr q)) | exact isB.f (fun w => q (((hWs.round hto _).set41 hp).mp (of_decide_eq_true w))), hqv, by rw [e91v, hmh, jup_n _ _ (by decide), eu]⟩)
  · exact e_zret dX3_setsWithout_41 rfl (by first | exact Or.inl rfl | exact Or.inr rfl) (⟨by first | exact isB.t (decide_eq_true (((hWs.round hto _).set41 hp).mpr q)) | exact isB.f (fun w => q (((hWs.round hto _).set41 hp).mp (of_decide_eq_true w))), hqv, by rw [e91v, hmh, jup_n _ _ (by decide), eu]⟩)

set_option maxHeartbeats 2000000 in
set_option maxRecDepth 20000 in
theorem s_Jshut_b (m : jM) (st : Nat → Int32) (V P : Nat) (hV : V ≤ 3) (hP : P ≤ 5) (hR : RK m 20 st V P) (x y z i n w : Int32) (hb : ¬ (inN x P ∧ inN y 9 ∧ inN z 8 ∧ inN n 17 ∧ inN w 2)) : iX mX3_toShut [.ref 0, .int x, .int y, .int z, .int i, .int n, .int w] m (fun v m1 => v = -1000001 ∧ m = m1) := by
  refine jX_of (L := [some (.ref 0), some (.int x), some (.int y), some (.int z), some (.int i), some (.int n), some (.int w), none, none, none, none, none]) 5 rfl rfl (by decide +kernel) rfl ?_
  refine e_iload_n dX3_toShut_0 rfl ?_
  refine e_aload_n dX3_toShut_1 rfl ?_
  refine e_getR (o := 20) (b := 20) dX3_toShut_2 lkX3_25 rfl rfl (by decide) rfl ?_
  refine e_getI dX3_toShut_5 lkX3_140 rfl rfl ?_
  rw [show m 20 6 = nI P from hR.ps]
  refine e_callSi (n := 2) mX3_isNot [.int x, .int (nI P)] dX3_toShut_8 ckX3_80 rfl (by decide +kernel) rfl rfl (Nat.le_of_ble_eq_true rfl) ⟨Nat.zero_le _, Nat.zero_le _⟩ (s_notN m x (nI P) P rfl) (fun v8 m1 hm1 => ?_)
  rcases hm1 with ⟨rfl, ⟨rfl, q⟩ | ⟨rfl, q⟩⟩
  · refine e_if_ne 51 dX3_toShut_11 (by decide) (fun c11 => ?_) (fun h => absurd h (by decide))
    refine e_ldc dX3_toShut_51 kkX3_84 ?_
    exact e_iret dX3_toShut_53 rfl (⟨rfl, rfl⟩)
  · have q := Classical.not_not.mp q
    refine e_if_ne 51 dX3_toShut_11 (by decide) (fun h => absurd h (by decide)) (fun c11 => ?_)
    refine e_iload_n dX3_toShut_14 rfl ?_
    refine e_bipush (v := 9) dX3_toShut_15 rfl ?_
    refine e_callSi (n := 2) mX3_isNot [.int y, .int 9] dX3_toShut_17 ckX3_80 rfl (by decide +kernel) rfl rfl (Nat.le_of_ble_eq_true rfl) ⟨Nat.zero_le _, Nat.zero_le _⟩ (s_notN m y 9 9 rfl) (fun v17 m2 hm2 => ?_)
    rcases hm2 with ⟨rfl, ⟨rfl, q1⟩ | ⟨rfl, q1⟩⟩
    · refine e_if_ne 51 dX3_toShut_20 (by decide) (fun c20 => ?_) (fun h => absurd h (by decide))
      refine e_ldc dX3_toShut_51 kkX3_84 ?_
      exact e_iret dX3_toShut_53 rfl (⟨rfl, rfl⟩)
    · have q1 := Classical.not_not.mp q1
      refine e_if_ne 51 dX3_toShut_20 (by decide) (fun h => absurd h (by decide)) (fun c20 => ?_)
      refine e_iload_n dX3_toShut_23 rfl ?_
      refine e_bipush (v := 8) dX3_toShut_24 rfl ?_
      refine e_callSi (n := 2) mX3_isNot [.int z, .int 8] dX3_toShut_26 ckX3_80 rfl (by decide +kernel) rfl rfl (Nat.le_of_ble_eq_true rfl) ⟨Nat.zero_le _, Nat.zero_le _⟩ (s_notN m z 8 8 rfl) (fun v26 m3 hm3 => ?_)
      rcases hm3 with ⟨rfl, ⟨rfl, q2⟩ | ⟨rfl, q2⟩⟩
      · refine e_if_ne 51 dX3_toShut_29 (by decide) (fun c29 => ?_) (fun h => absurd h (by decide))
        refine e_ldc dX3_toShut_51 kkX3_84 ?_
        exact e_iret dX3_toShut_53 rfl (⟨rfl, rfl⟩)
      · have q2 := Classical.not_not.mp q2
        refine e_if_ne 51 dX3_toShut_29 (by decide) (fun h => absurd h (by decide)) (fun c29 => ?_)
        refine e_iload dX3_toShut_32 rfl ?_
        refine e_bipush (v := 17) dX3_toShut_34 rfl ?_
        refine e_callSi (n := 2) mX3_isNot [.int n, .int 17] dX3_toShut_36 ckX3_80 rfl (by decide +kernel) rfl rfl (Nat.le_of_ble_eq_true rfl) ⟨Nat.zero_le _, Nat.zero_le _⟩ (s_notN m n 17 17 rfl) (fun v36 m4 hm4 => ?_)
        rcases hm4 with ⟨rfl, ⟨rfl, q3⟩ | ⟨rfl, q3⟩⟩
        · refine e_if_ne 51 dX3_toShut_39 (by decide) (fun c39 => ?_) (fun h => absurd h (by decide))
          refine e_ldc dX3_toShut_51 kkX3_84 ?_
          exact e_iret dX3_toShut_53 rfl (⟨rfl, rfl⟩)
        · have q3 := Classical.not_not.mp q3
          refine e_if_ne 51 dX3_toShut_39 (by decide) (fun h => absurd h (by decide)) (fun c39 => ?_)
          refine e_iload dX3_toShut_42 rfl ?_
          refine e_iconst (v := 2) dX3_toShut_44 rfl ?_
          refine e_callSi (n := 2) mX3_isNot [.int w, .int 2] dX3_toShut_45 ckX3_80 rfl (by decide +kernel) rfl rfl (Nat.le_of_ble_eq_true rfl) ⟨Nat.zero_le _, Nat.zero_le _⟩ (s_notN m w 2 2 rfl) (fun v45 m5 hm5 => ?_)
          rcases hm5 with ⟨rfl, ⟨rfl, q4⟩ | ⟨rfl, q4⟩⟩
          · refine e_if_eq 54 dX3_toShut_48 (by decide) (fun h => absurd h (by decide)) (fun c48 => ?_)
            refine e_ldc dX3_toShut_51 kkX3_84 ?_
            exact e_iret dX3_toShut_53 rfl (⟨rfl, rfl⟩)
          · have q4 := Classical.not_not.mp q4
            exact False.elim (hb ⟨q, q1, q2, q3, q4⟩)

set_option maxHeartbeats 2000000 in
set_option maxRecDepth 20000 in
theorem s_Jshut_f (m : jM) (st : Nat → Int32) (V P : Nat) (hV : V ≤ 3) (hP : P ≤ 5) (hR : RK m 20 st V P) (p : Nat) (hp : p < P) (d : Nat) (hd : d ≤ 8) (r : Nat) (hr : r < 8) (n : Nat) (hn : n ≤ 16) (w : Int32) (hw2 : inN w 2) (i : Int32) (hrw : RW m r) (htn : ¬ tuneOK m r i n) : iX mX3_toShut [.ref 0, .int (nI p), .int (nI d), .int (nI r), .int i, .int (nI n), .int w] m (fun v m1 => v = lackV m r i n ∧ SQ m m1 ∧ m1 0 17 = lackX m r i n) := by
  refine jX_of (L := [some (.ref 0), some (.int (nI p)), some (.int (nI d)), some (.int (nI r)), some (.int i), some (.int (nI n)), some (.int w), none, none, none, none, none]) 5 rfl rfl (by decide +kernel) rfl ?_
  refine e_iload_n dX3_toShut_0 rfl ?_
  refine e_aload_n dX3_toShut_1 rfl ?_
  refine e_getR (o := 20) (b := 20) dX3_toShut_2 lkX3_25 rfl rfl (by decide) rfl ?_
  refine e_getI dX3_toShut_5 lkX3_140 rfl rfl ?_
  rw [show m 20 6 = nI P from hR.ps]
  refine e_callSi (n := 2) mX3_isNot [.int (nI p), .int (nI P)] dX3_toShut_8 ckX3_80 rfl (by decide +kernel) rfl rfl (Nat.le_of_ble_eq_true rfl) ⟨Nat.zero_le _, Nat.zero_le _⟩ (s_notN m (nI p) (nI P) P rfl) (fun v8 m1 hm1 => ?_)
  rcases hm1 with ⟨rfl, ⟨rfl, q5⟩ | ⟨rfl, q5⟩⟩
  · exact False.elim (q5 (inN_nI (by omega) hp))
  · have q5 := Classical.not_not.mp q5
    refine e_if_ne 51 dX3_toShut_11 (by decide) (fun h => absurd h (by decide)) (fun c11 => ?_)
    refine e_iload_n dX3_toShut_14 rfl ?_
    refine e_bipush (v := 9) dX3_toShut_15 rfl ?_
    refine e_callSi (n := 2) mX3_isNot [.int (nI d), .int 9] dX3_toShut_17 ckX3_80 rfl (by decide +kernel) rfl rfl (Nat.le_of_ble_eq_true rfl) ⟨Nat.zero_le _, Nat.zero_le _⟩ (s_notN m (nI d) 9 9 rfl) (fun v17 m2 hm2 => ?_)
    rcases hm2 with ⟨rfl, ⟨rfl, q6⟩ | ⟨rfl, q6⟩⟩
    · exact False.elim (q6 (inN_nI (by decide) (by omega)))
    · have q6 := Classical.not_not.mp q6
      refine e_if_ne 51 dX3_toShut_20 (by decide) (fun h => absurd h (by decide)) (fun c20 => ?_)
      refine e_iload_n dX3_toShut_23 rfl ?_
      refine e_bipush (v := 8) dX3_toShut_24 rfl ?_
      refine e_callSi (n := 2) mX3_isNot [.int (nI r), .int 8] dX3_toShut_26 ckX3_80 rfl (by decide +kernel) rfl rfl (Nat.le_of_ble_eq_true rfl) ⟨Nat.zero_le _, Nat.zero_le _⟩ (s_notN m (nI r) 8 8 rfl) (fun v26 m3 hm3 => ?_)
      rcases hm3 with ⟨rfl, ⟨rfl, q1⟩ | ⟨rfl, q1⟩⟩
      · exact False.elim (q1 (inN_nI (by decide) hr))
      · have q1 := Classical.not_not.mp q1
        refine e_if_ne 51 dX3_toShut_29 (by decide) (fun h => absurd h (by decide)) (fun c29 => ?_)
        refine e_iload dX3_toShut_32 rfl ?_
        refine e_bipush (v := 17) dX3_toShut_34 rfl ?_
        refine e_callSi (n := 2) mX3_isNot [.int (nI n), .int 17] dX3_toShut_36 ckX3_80 rfl (by decide +kernel) rfl rfl (Nat.le_of_ble_eq_true rfl) ⟨Nat.zero_le _, Nat.zero_le _⟩ (s_notN m (nI n) 17 17 rfl) (fun v36 m4 hm4 => ?_)
        rcases hm4 with ⟨rfl, ⟨rfl, q2⟩ | ⟨rfl, q2⟩⟩
        · exact False.elim (q2 (inN_nI (by decide) (by omega)))
        · have q2 := Classical.not_not.mp q2
          refine e_if_ne 51 dX3_toShut_39 (by decide) (fun h => absurd h (by decide)) (fun c39 => ?_)
          refine e_iload dX3_toShut_42 rfl ?_
          refine e_iconst (v := 2) dX3_toShut_44 rfl ?_
          refine e_callSi (n := 2) mX3_isNot [.int w, .int 2] dX3_toShut_45 ckX3_80 rfl (by decide +kernel) rfl rfl (Nat.le_of_ble_eq_true rfl) ⟨Nat.zero_le _, Nat.zero_le _⟩ (s_notN m w 2 2 rfl) (fun v45 m5 hm5 => ?_)
          rcases hm5 with ⟨rfl, ⟨rfl, q3⟩ | ⟨rfl, q3⟩⟩
          · exact False.elim (q3 (hw2))
          · have q3 := Classical.not_not.mp q3
            refine e_if_eq 54 dX3_toShut_48 (by decide) (fun c48 => ?_) (fun h => absurd h (by decide))
            refine e_aload_n dX3_toShut_54 rfl ?_
            refine e_aload_n dX3_toShut_55 rfl ?_
            refine e_getR (o := 1) (b := 1) dX3_toShut_56 lkX3_11 rfl rfl (by decide) rfl ?_
            refine e_iload_n dX3_toShut_59 rfl ?_
            refine e_aald (b := 2 + 2 * r) dX3_toShut_60 rfl (by decide) r rfl (by omega) (by decide) rfl ?_
            refine e_iload dX3_toShut_61 rfl ?_
            refine e_iload dX3_toShut_63 rfl ?_
            refine e_callVi (n := 3) mX3_takeTune [.ref (2 + 2 * r), .int i, .int (nI n)] dX3_toShut_65 ckX3_198 rfl (by decide +kernel) rfl rfl rfl rfl (Nat.le_of_ble_eq_true rfl) ⟨Nat.zero_le _, Nat.zero_le _⟩ (s_takeF m r hr n (by omega) i hrw htn) (fun v65 mt hmt => ?_)
            obtain ⟨rfl, hl⟩ := hmt
            refine e_istore (L' := [some (.ref 0), some (.int (nI p)), some (.int (nI d)), some (.int (nI r)), some (.int i), some (.int (nI n)), some (.int w), some (.int (lackV m r i n)), none, none, none, none]) dX3_toShut_68 (Nat.le_of_ble_eq_true rfl) (Nat.le_of_ble_eq_true rfl) (jnl_at (i := 6) rfl) rfl ?_
            refine e_iload dX3_toShut_70 rfl ?_
            refine e_if_eq 78 dX3_toShut_72 (by decide) (fun h => absurd h (lackV_ne0 m r i n)) (fun c72 => ?_)
            refine e_iload dX3_toShut_75 rfl ?_
            exact e_iret dX3_toShut_77 rfl (⟨rfl, hl⟩)

set_option maxHeartbeats 2000000 in
set_option maxRecDepth 20000 in
theorem s_Jshut (m : jM) (st : Nat → Int32) (V P : Nat) (hW : WK st V P) (hR : RK m 20 st V P) (h01 : m 20 0 = 1) (p : Nat) (hp : p < P) (d : Nat) (hd : d ≤ 8) (w : Int32) (hw2 : inN w 2) (r : Nat) (hr : r < 8) (n : Nat) (hn : n ≤ 16) (i k : Nat) (h0 : m (2 + 2 * r) 0 = 1) (hk : k ≤ 40) (h2 : m (2 + 2 * r) 2 = nI k) (hik : i + n ≤ k) (hg : goodB (m (2 + 2 * r + 1)) i n = true) (tn : Nat → Int32) (htn : ∀ j, j < n → m (2 + 2 * r + 1) (i + j) = tn j) : iX mX3_toShut [.ref 0, .int (nI p), .int (nI d), .int (nI r), .int (nI i), .int (nI n), .int w] m (fun v m1 => v = shV (shB st tn d n V P p 8) w ∧ SQ m m1 ∧ m1 0 17 = 0) := by
  have hV := hW.v3
  have hP := hW.p5
  have hto : ∀ j, j < n → ∃ a, a < 8 ∧ tn j = nI a := fun j hj => by rw [← htn j hj]; exact goodB_ok hg j hj
  refine jX_of (L := [some (.ref 0), some (.int (nI p)), some (.int (nI d)), some (.int (nI r)), some (.int (nI i)), some (.int (nI n)), some (.int w), none, none, none, none, none]) 5 rfl rfl (by decide +kernel) rfl ?_
  refine e_iload_n dX3_toShut_0 rfl ?_
  refine e_aload_n dX3_toShut_1 rfl ?_
  refine e_getR (o := 20) (b := 20) dX3_toShut_2 lkX3_25 rfl rfl (by decide) rfl ?_
  refine e_getI dX3_toShut_5 lkX3_140 rfl rfl ?_
  rw [show m 20 6 = nI P from hR.ps]
  refine e_callSi (n := 2) mX3_isNot [.int (nI p), .int (nI P)] dX3_toShut_8 ckX3_80 rfl (by decide +kernel) rfl rfl (Nat.le_of_ble_eq_true rfl) ⟨Nat.zero_le _, Nat.zero_le _⟩ (s_notN m (nI p) (nI P) P rfl) (fun v8 m1 hm1 => ?_)
  rcases hm1 with ⟨rfl, ⟨rfl, q5⟩ | ⟨rfl, q5⟩⟩
  · exact False.elim (q5 (inN_nI (by omega) hp))
  · have q5 := Classical.not_not.mp q5
    refine e_if_ne 51 dX3_toShut_11 (by decide) (fun h => absurd h (by decide)) (fun c11 => ?_)
    refine e_iload_n dX3_toShut_14 rfl ?_
    refine e_bipush (v := 9) dX3_toShut_15 rfl ?_
    refine e_callSi (n := 2) mX3_isNot [.int (nI d), .int 9] dX3_toShut_17 ckX3_80 rfl (by decide +kernel) rfl rfl (Nat.le_of_ble_eq_true rfl) ⟨Nat.zero_le _, Nat.zero_le _⟩ (s_notN m (nI d) 9 9 rfl) (fun v17 m2 hm2 => ?_)
    rcases hm2 with ⟨rfl, ⟨rfl, q6⟩ | ⟨rfl, q6⟩⟩
    · exact False.elim (q6 (inN_nI (by decide) (by omega)))
    · have q6 := Classical.not_not.mp q6
      refine e_if_ne 51 dX3_toShut_20 (by decide) (fun h => absurd h (by decide)) (fun c20 => ?_)
      refine e_iload_n dX3_toShut_23 rfl ?_
      refine e_bipush (v := 8) dX3_toShut_24 rfl ?_
      refine e_callSi (n := 2) mX3_isNot [.int (nI r), .int 8] dX3_toShut_26 ckX3_80 rfl (by decide +kernel) rfl rfl (Nat.le_of_ble_eq_true rfl) ⟨Nat.zero_le _, Nat.zero_le _⟩ (s_notN m (nI r) 8 8 rfl) (fun v26 m3 hm3 => ?_)
      rcases hm3 with ⟨rfl, ⟨rfl, q1⟩ | ⟨rfl, q1⟩⟩
      · exact False.elim (q1 (inN_nI (by decide) hr))
      · have q1 := Classical.not_not.mp q1
        refine e_if_ne 51 dX3_toShut_29 (by decide) (fun h => absurd h (by decide)) (fun c29 => ?_)
        refine e_iload dX3_toShut_32 rfl ?_
        refine e_bipush (v := 17) dX3_toShut_34 rfl ?_
        refine e_callSi (n := 2) mX3_isNot [.int (nI n), .int 17] dX3_toShut_36 ckX3_80 rfl (by decide +kernel) rfl rfl (Nat.le_of_ble_eq_true rfl) ⟨Nat.zero_le _, Nat.zero_le _⟩ (s_notN m (nI n) 17 17 rfl) (fun v36 m4 hm4 => ?_)
        rcases hm4 with ⟨rfl, ⟨rfl, q2⟩ | ⟨rfl, q2⟩⟩
        · exact False.elim (q2 (inN_nI (by decide) (by omega)))
        · have q2 := Classical.not_not.mp q2
          refine e_if_ne 51 dX3_toShut_39 (by decide) (fun h => absurd h (by decide)) (fun c39 => ?_)
          refine e_iload dX3_toShut_42 rfl ?_
          refine e_iconst (v := 2) dX3_toShut_44 rfl ?_
          refine e_callSi (n := 2) mX3_isNot [.int w, .int 2] dX3_toShut_45 ckX3_80 rfl (by decide +kernel) rfl rfl (Nat.le_of_ble_eq_true rfl) ⟨Nat.zero_le _, Nat.zero_le _⟩ (s_notN m w 2 2 rfl) (fun v45 m5 hm5 => ?_)
          rcases hm5 with ⟨rfl, ⟨rfl, q3⟩ | ⟨rfl, q3⟩⟩
          · exact False.elim (q3 (hw2))
          · have q3 := Classical.not_not.mp q3
            refine e_if_eq 54 dX3_toShut_48 (by decide) (fun c48 => ?_) (fun h => absurd h (by decide))
            refine e_aload_n dX3_toShut_54 rfl ?_
            refine e_aload_n dX3_toShut_55 rfl ?_
            refine e_getR (o := 1) (b := 1) dX3_toShut_56 lkX3_11 rfl rfl (by decide) rfl ?_
            refine e_iload_n dX3_toShut_59 rfl ?_
            refine e_aald (b := 2 + 2 * r) dX3_toShut_60 rfl (by decide) r rfl (by omega) (by decide) rfl ?_
            refine e_iload dX3_toShut_61 rfl ?_
            refine e_iload dX3_toShut_63 rfl ?_
            refine e_callVi (n := 3) mX3_takeTune [.ref (2 + 2 * r), .int (nI i), .int (nI n)] dX3_toShut_65 ckX3_198 rfl (by decide +kernel) rfl rfl rfl rfl (Nat.le_of_ble_eq_true rfl) ⟨Nat.zero_le _, Nat.zero_le _⟩ (s_take m r hr n (by omega) i k h0 hk h2 hik) (fun v65 mt hmt => ?_)
            obtain ⟨ev, ⟨ft, eft⟩, e91⟩ := hmt
            rw [if_pos hg] at ev
            subst ev
            have h91 : ∀ j, j < n → mt 91 j = tn j := fun j hj => (e91 hg j hj).trans (htn j hj)
            have hq : SQ m mt := by rw [← eft]; exact SQ.p m ft
            refine e_istore (L' := [some (.ref 0), some (.int (nI p)), some (.int (nI d)), some (.int (nI r)), some (.int (nI i)), some (.int (nI n)), some (.int w), some (.int 0), none, none, none, none]) dX3_toShut_68 (Nat.le_of_ble_eq_true rfl) (Nat.le_of_ble_eq_true rfl) (jnl_at (i := 6) rfl) rfl ?_
            refine e_iload dX3_toShut_70 rfl ?_
            refine e_if_eq 78 dX3_toShut_72 (by decide) (fun c72 => ?_) (fun h => absurd h (by decide))
            refine e_iconst (v := 4) dX3_toShut_78 rfl ?_
            refine e_istore (L' := [some (.ref 0), some (.int (nI p)), some (.int (nI d)), some (.int (nI r)), some (.int (nI i)), some (.int (nI n)), some (.int w), some (.int 0), some (.int 4), none, none, none]) dX3_toShut_79 (Nat.le_of_ble_eq_true rfl) (Nat.le_of_ble_eq_true rfl) (jnl_at (i := 7) rfl) rfl ?_
            refine e_ldc dX3_toShut_81 kkX3_221 ?_
            refine e_istore (L' := [some (.ref 0), some (.int (nI p)), some (.int (nI d)), some (.int (nI r)), some (.int (nI i)), some (.int (nI n)), some (.int w), some (.int 0), some (.int 4), some (.int (-1000000)), none, none]) dX3_toShut_83 (Nat.le_of_ble_eq_true rfl) (Nat.le_of_ble_eq_true rfl) (jnl_at (i := 8) rfl) rfl ?_
            refine e_iconst (v := 0) dX3_toShut_85 rfl ?_
            refine e_istore (L' := [some (.ref 0), some (.int (nI p)), some (.int (nI d)), some (.int (nI r)), some (.int (nI i)), some (.int (nI n)), some (.int w), some (.int 0), some (.int 4), some (.int (-1000000)), some (.int 0), none]) dX3_toShut_86 (Nat.le_of_ble_eq_true rfl) (Nat.le_of_ble_eq_true rfl) (jnl_at (i := 9) rfl) rfl ?_
            refine e_loopS (σ := Unit) 88 8 (fun u _ => [some (.ref 0), some (.int (nI p)), some (.int (nI d)), some (.int (nI r)), some (.int (nI i)), some (.int (nI n)), some (.int w), some (.int 0), some (.int (fwI (shB st tn d n V P p u))), some (.int (whI (shB st tn d n V P p u))), some (.int (nI u)), none]) (fun u _ mm => SQ m mm ∧ ∀ j, j < n → mm 91 j = tn j) 0 () (Nat.zero_le _) rfl (⟨hq, h91⟩) ?_ ?_
            · intro _ mm hI
              show jE _ _ 88 [some (.ref 0), some (.int (nI p)), some (.int (nI d)), some (.int (nI r)), some (.int (nI i)), some (.int (nI n)), some (.int w), some (.int 0), some (.int (fwI (shB st tn d n V P p 8))), some (.int (whI (shB st tn d n V P p 8))), some (.int (nI 8)), none] [] mm
              obtain ⟨hqm, h91⟩ := hI
              refine e_iload dX3_toShut_88 rfl ?_
              refine e_bipush (v := 8) dX3_toShut_90 rfl ?_
              refine e_icmp_ge 153 dX3_toShut_92 (by decide) (fun c92 => ?_) (fun h => absurd (j_done rfl rfl) h)
              refine e_aload_n dX3_toShut_153 rfl ?_
              rcases j_opt (shB st tn d n V P p 8) with hsb | ⟨b, hsb⟩
              · rw [hsb, show fwI none = 4 from rfl, show whI none = -1000000 from rfl]
                refine e_iload dX3_toShut_154 rfl ?_
                refine e_if_ne 171 dX3_toShut_156 (by decide) (fun c156 => ?_) (fun c156 => ?_)
                · refine e_iload dX3_toShut_171 rfl ?_
                  refine e_callVi (n := 1) mX3_fine [.int (-1000000)] dX3_toShut_173 ckX3_93 rfl (by decide +kernel) rfl rfl rfl rfl (Nat.le_of_ble_eq_true rfl) ⟨Nat.zero_le _, Nat.zero_le _⟩ (s_fine mm (-1000000)) (fun v173 mw hmw => ?_)
                  obtain ⟨rfl, hw⟩ := hmw
                  exact e_iret dX3_toShut_176 rfl (⟨by unfold shV; (try rw [hsb]); first | rfl | (dsimp only; first | rw [if_pos (by first | exact c156 | exact Classical.byContradiction c156)] | rw [if_neg c156]), by rw [← hw]; exact hqm.tr (SQ.s _ 0), by rw [← hw, jup_s, upd_s]⟩)
                · refine e_iload dX3_toShut_159 rfl ?_
                  refine e_ldc dX3_toShut_161 kkX3_221 ?_
                  refine e_icmp_eq 171 dX3_toShut_163 (by decide) (fun c163 => ?_) (fun h => absurd h (by decide))
                  refine e_iload dX3_toShut_171 rfl ?_
                  refine e_callVi (n := 1) mX3_fine [.int (-1000000)] dX3_toShut_173 ckX3_93 rfl (by decide +kernel) rfl rfl rfl rfl (Nat.le_of_ble_eq_true rfl) ⟨Nat.zero_le _, Nat.zero_le _⟩ (s_fine mm (-1000000)) (fun v173 mw hmw => ?_)
                  obtain ⟨rfl, hw⟩ := hmw
                  exact e_iret dX3_toShut_176 rfl (⟨by unfold shV; (try rw [hsb]); first | rfl | (dsimp only; first | rw [if_pos (by first | exact c156 | exact Classical.byContradiction c156)] | rw [if_neg c156]), by rw [← hw]; exact hqm.tr (SQ.s _ 0), by rw [← hw, jup_s, upd_s]⟩)
              · have hbk := shB_lt 8 b hsb
                rw [hsb, show fwI (some b) = nI (popc b) from rfl, show whI (some b) = nI b from rfl]
                refine e_iload dX3_toShut_154 rfl ?_
                refine e_if_ne 171 dX3_toShut_156 (by decide) (fun c156 => ?_) (fun c156 => ?_)
                · refine e_iload dX3_toShut_171 rfl ?_
                  refine e_callVi (n := 1) mX3_fine [.int (nI b)] dX3_toShut_173 ckX3_93 rfl (by decide +kernel) rfl rfl rfl rfl (Nat.le_of_ble_eq_true rfl) ⟨Nat.zero_le _, Nat.zero_le _⟩ (s_fine mm (nI b)) (fun v173 mw hmw => ?_)
                  obtain ⟨rfl, hw⟩ := hmw
                  exact e_iret dX3_toShut_176 rfl (⟨by unfold shV; (try rw [hsb]); first | rfl | (dsimp only; first | rw [if_pos (by first | exact c156 | exact Classical.byContradiction c156)] | rw [if_neg c156]), by rw [← hw]; exact hqm.tr (SQ.s _ 0), by rw [← hw, jup_s, upd_s]⟩)
                · refine e_iload dX3_toShut_159 rfl ?_
                  refine e_ldc dX3_toShut_161 kkX3_221 ?_
                  refine e_icmp_eq 171 dX3_toShut_163 (by decide) (fun h => absurd (nI_pos' (n := b) (by omega)) (by rw [h]; decide)) (fun c163 => ?_)
                  refine e_iload dX3_toShut_166 rfl ?_
                  refine e_goto 173 dX3_toShut_168 (by decide) ?_
                  refine e_callVi (n := 1) mX3_fine [.int (nI (popc b))] dX3_toShut_173 ckX3_93 rfl (by decide +kernel) rfl rfl rfl rfl (Nat.le_of_ble_eq_true rfl) ⟨Nat.zero_le _, Nat.zero_le _⟩ (s_fine mm (nI (popc b))) (fun v173 mw hmw => ?_)
                  obtain ⟨rfl, hw⟩ := hmw
                  exact e_iret dX3_toShut_176 rfl (⟨by unfold shV; (try rw [hsb]); first | rfl | (dsimp only; first | rw [if_pos (by first | exact c156 | exact Classical.byContradiction c156)] | rw [if_neg c156]), by rw [← hw]; exact hqm.tr (SQ.s _ 0), by rw [← hw, jup_s, upd_s]⟩)
            · intro u hk_ _ mm hI ih
              show jE _ _ 88 [some (.ref 0), some (.int (nI p)), some (.int (nI d)), some (.int (nI r)), some (.int (nI i)), some (.int (nI n)), some (.int w), some (.int 0), some (.int (fwI (shB st tn d n V P p u))), some (.int (whI (shB st tn d n V P p u))), some (.int (nI u)), none] [] mm
              obtain ⟨hqm, h91⟩ := hI
              have hu8 : u < 8 := hk_
              have hRm : RK mm 20 st V P := hqm.rk hR
              refine e_iload dX3_toShut_88 rfl ?_
              refine e_bipush (v := 8) dX3_toShut_90 rfl ?_
              refine e_icmp_ge 153 dX3_toShut_92 (by decide) (fun h => absurd h (j_more (N := 8) rfl rfl (by omega) (by omega))) (fun c92 => ?_)
              refine e_iload dX3_toShut_95 rfl ?_
              refine e_callSi (n := 1) mInt_bitCount [.int (nI u)] dX3_toShut_97 ckX3_209 rfl (by decide +kernel) rfl rfl (Nat.le_of_ble_eq_true rfl) ⟨Nat.zero_le _, Nat.zero_le _⟩ (s_bitX mm (nI u)) (fun v97 m11 hm11 => ?_)
              obtain ⟨rfl, rfl⟩ := hm11
              rw [bcX_k u (by omega)]
              refine e_istore (L' := [some (.ref 0), some (.int (nI p)), some (.int (nI d)), some (.int (nI r)), some (.int (nI i)), some (.int (nI n)), some (.int w), some (.int 0), some (.int (fwI (shB st tn d n V P p u))), some (.int (whI (shB st tn d n V P p u))), some (.int (nI u)), some (.int (nI (popc u)))]) dX3_toShut_100 (Nat.le_of_ble_eq_true rfl) (Nat.le_of_ble_eq_true rfl) (jnl_at (i := 10) rfl) rfl ?_
              refine e_iload dX3_toShut_102 rfl ?_
              refine e_aload_n dX3_toShut_104 rfl ?_
              refine e_getR (o := 20) (b := 20) dX3_toShut_105 lkX3_25 rfl rfl (by decide) rfl ?_
              refine e_getR (o := 8) (b := 28) dX3_toShut_108 lkX3_164 rfl rfl (by decide) rfl ?_
              refine e_iload_n dX3_toShut_111 rfl ?_
              refine e_iald dX3_toShut_112 rfl p rfl (by omega) (by decide) ?_
              rw [show mm 28 p = st (31 + p) from hRm.hr p hp]
              refine e_iconst (v := -1) dX3_toShut_113 rfl ?_
              refine e_ixor dX3_toShut_114 ?_
              refine e_iand dX3_toShut_115 ?_
              refine e_if_ne 147 dX3_toShut_116 (by decide) (fun c116 => ?_) (fun c116 => ?_)
              · refine e_iinc (v := nI (u + 1)) (L' := [some (.ref 0), some (.int (nI p)), some (.int (nI d)), some (.int (nI r)), some (.int (nI i)), some (.int (nI n)), some (.int w), some (.int 0), some (.int (fwI (shB st tn d n V P p u))), some (.int (whI (shB st tn d n V P p u))), some (.int (nI (u + 1))), some (.int (nI (popc u)))]) dX3_toShut_147 rfl (j_inc rfl) (by decide) (jnl_at (i := 9) rfl) rfl ?_
                refine e_goto 88 dX3_toShut_150 (by decide) ?_
                refine e_weak [some (.ref 0), some (.int (nI p)), some (.int (nI d)), some (.int (nI r)), some (.int (nI i)), some (.int (nI n)), some (.int w), some (.int 0), some (.int (fwI (shB st tn d n V P p u))), some (.int (whI (shB st tn d n V P p u))), some (.int (nI (u + 1))), none] (by simp [jle]) ?_
                have eB : shB st tn d n V P p (u + 1) = shB st tn d n V P p u := shB_n0 c116
                refine e_start (by simp only [eB]; (try rw [hsb]); (try rfl)) rfl (ih () mm ⟨hqm, h91⟩)
              · rcases j_opt (shB st tn d n V P p u) with hsb | ⟨b, hsb⟩
                · rw [hsb, show fwI none = 4 from rfl, show whI none = -1000000 from rfl]
                  refine e_iload dX3_toShut_119 rfl ?_
                  refine e_iload dX3_toShut_121 rfl ?_
                  refine e_icmp_ge 147 dX3_toShut_123 (by decide) (fun h => absurd ((j_le (a := 4) (b := popc u) (by decide) (by have := popc_le u; omega)).mp h) (by have := popc8 u hu8; omega)) (fun c123 => ?_)
                  refine e_aload_n dX3_toShut_126 rfl ?_
                  refine e_iload_n dX3_toShut_127 rfl ?_
                  refine e_iload dX3_toShut_128 rfl ?_
                  refine e_iload_n dX3_toShut_130 rfl ?_
                  refine e_iload dX3_toShut_131 rfl ?_
                  refine e_callVi (n := 4) mX3_setsWithout [.int (nI p), .int (nI u), .int (nI d), .int (nI n)] dX3_toShut_133 ckX3_222 rfl (by decide +kernel) rfl rfl rfl rfl (Nat.le_of_ble_eq_true rfl) ⟨Nat.zero_le _, Nat.zero_le _⟩ (s_setsW _ mm hqm st V P hW hR h01 p hp u hu8 d hd n hn tn h91 hto) (fun v133 mv hmv => ?_)
                  rcases hmv with ⟨⟨rfl, q⟩ | ⟨rfl, q⟩, hqv, e91v⟩
                  · refine e_if_eq 147 dX3_toShut_136 (by decide) (fun h => absurd h (by decide)) (fun c136 => ?_)
                    refine e_iload dX3_toShut_139 rfl ?_
                    refine e_istore (L' := [some (.ref 0), some (.int (nI p)), some (.int (nI d)), some (.int (nI r)), some (.int (nI i)), some (.int (nI n)), some (.int w), some (.int 0), some (.int (nI (popc u))), some (.int (-1000000)), some (.int (nI u)), some (.int (nI (popc u)))]) dX3_toShut_141 (Nat.le_of_ble_eq_true rfl) (Nat.le_of_ble_eq_true rfl) (jnl_at (i := 7) rfl) rfl ?_
                    refine e_iload dX3_toShut_143 rfl ?_
                    refine e_istore (L' := [some (.ref 0), some (.int (nI p)), some (.int (nI d)), some (.int (nI r)), some (.int (nI i)), some (.int (nI n)), some (.int w), some (.int 0), some (.int (nI (popc u))), some (.int (nI u)), some (.int (nI u)), some (.int (nI (popc u)))]) dX3_toShut_145 (Nat.le_of_ble_eq_true rfl) (Nat.le_of_ble_eq_true rfl) (jnl_at (i := 8) rfl) rfl ?_
                    refine e_iinc (v := nI (u + 1)) (L' := [some (.ref 0), some (.int (nI p)), some (.int (nI d)), some (.int (nI r)), some (.int (nI i)), some (.int (nI n)), some (.int w), some (.int 0), some (.int (nI (popc u))), some (.int (nI u)), some (.int (nI (u + 1))), some (.int (nI (popc u)))]) dX3_toShut_147 rfl (j_inc rfl) (by decide) (jnl_at (i := 9) rfl) rfl ?_
                    refine e_goto 88 dX3_toShut_150 (by decide) ?_
                    refine e_weak [some (.ref 0), some (.int (nI p)), some (.int (nI d)), some (.int (nI r)), some (.int (nI i)), some (.int (nI n)), some (.int w), some (.int 0), some (.int (nI (popc u))), some (.int (nI u)), some (.int (nI (u + 1))), none] (by simp [jle]) ?_
                    have eB : shB st tn d n V P p (u + 1) = some u := by first | exact shB_y0 (Classical.byContradiction c116) hsb q | exact shB_y1 (Classical.byContradiction c116) hsb ((j_lt (by have := popc_le u; omega) (by have := popc_le b; omega)).mp (Int32.not_le.mp c123)) q | exact shB_y0 c116 hsb q | exact shB_y1 c116 hsb ((j_lt (by have := popc_le u; omega) (by have := popc_le b; omega)).mp (Int32.not_le.mp c123)) q
                    refine e_start (by simp only [eB]; (try rw [hsb]); (try rfl)) rfl (ih () mv ⟨hqv, fun j hj => by rw [e91v]; exact h91 j hj⟩)
                  · refine e_if_eq 147 dX3_toShut_136 (by decide) (fun c136 => ?_) (fun h => absurd h (by decide))
                    refine e_iinc (v := nI (u + 1)) (L' := [some (.ref 0), some (.int (nI p)), some (.int (nI d)), some (.int (nI r)), some (.int (nI i)), some (.int (nI n)), some (.int w), some (.int 0), some (.int 4), some (.int (-1000000)), some (.int (nI (u + 1))), some (.int (nI (popc u)))]) dX3_toShut_147 rfl (j_inc rfl) (by decide) (jnl_at (i := 9) rfl) rfl ?_
                    refine e_goto 88 dX3_toShut_150 (by decide) ?_
                    refine e_weak [some (.ref 0), some (.int (nI p)), some (.int (nI d)), some (.int (nI r)), some (.int (nI i)), some (.int (nI n)), some (.int w), some (.int 0), some (.int 4), some (.int (-1000000)), some (.int (nI (u + 1))), none] (by simp [jle]) ?_
                    have eB : shB st tn d n V P p (u + 1) = shB st tn d n V P p u := shB_no q
                    refine e_start (by simp only [eB]; (try rw [hsb]); (try rfl)) rfl (ih () mv ⟨hqv, fun j hj => by rw [e91v]; exact h91 j hj⟩)
                · have hbk := shB_lt u b hsb
                  rw [hsb, show fwI (some b) = nI (popc b) from rfl, show whI (some b) = nI b from rfl]
                  refine e_iload dX3_toShut_119 rfl ?_
                  refine e_iload dX3_toShut_121 rfl ?_
                  refine e_icmp_ge 147 dX3_toShut_123 (by decide) (fun c123 => ?_) (fun c123 => ?_)
                  · refine e_iinc (v := nI (u + 1)) (L' := [some (.ref 0), some (.int (nI p)), some (.int (nI d)), some (.int (nI r)), some (.int (nI i)), some (.int (nI n)), some (.int w), some (.int 0), some (.int (nI (popc b))), some (.int (nI b)), some (.int (nI (u + 1))), some (.int (nI (popc u)))]) dX3_toShut_147 rfl (j_inc rfl) (by decide) (jnl_at (i := 9) rfl) rfl ?_
                    refine e_goto 88 dX3_toShut_150 (by decide) ?_
                    refine e_weak [some (.ref 0), some (.int (nI p)), some (.int (nI d)), some (.int (nI r)), some (.int (nI i)), some (.int (nI n)), some (.int w), some (.int 0), some (.int (nI (popc b))), some (.int (nI b)), some (.int (nI (u + 1))), none] (by simp [jle]) ?_
                    have eB : shB st tn d n V P p (u + 1) = shB st tn d n V P p u := shB_ge hsb (fun w => absurd ((j_lt (a := popc u) (b := popc b) (by have := popc_le u; omega) (by have := popc_le b; omega)).mpr w) (Int32.not_lt.mpr c123))
                    refine e_start (by simp only [eB]; (try rw [hsb]); (try rfl)) rfl (ih () mm ⟨hqm, h91⟩)
                  · refine e_aload_n dX3_toShut_126 rfl ?_
                    refine e_iload_n dX3_toShut_127 rfl ?_
                    refine e_iload dX3_toShut_128 rfl ?_
                    refine e_iload_n dX3_toShut_130 rfl ?_
                    refine e_iload dX3_toShut_131 rfl ?_
                    refine e_callVi (n := 4) mX3_setsWithout [.int (nI p), .int (nI u), .int (nI d), .int (nI n)] dX3_toShut_133 ckX3_222 rfl (by decide +kernel) rfl rfl rfl rfl (Nat.le_of_ble_eq_true rfl) ⟨Nat.zero_le _, Nat.zero_le _⟩ (s_setsW _ mm hqm st V P hW hR h01 p hp u hu8 d hd n hn tn h91 hto) (fun v133 mv hmv => ?_)
                    rcases hmv with ⟨⟨rfl, q⟩ | ⟨rfl, q⟩, hqv, e91v⟩
                    · refine e_if_eq 147 dX3_toShut_136 (by decide) (fun h => absurd h (by decide)) (fun c136 => ?_)
                      refine e_iload dX3_toShut_139 rfl ?_
                      refine e_istore (L' := [some (.ref 0), some (.int (nI p)), some (.int (nI d)), some (.int (nI r)), some (.int (nI i)), some (.int (nI n)), some (.int w), some (.int 0), some (.int (nI (popc u))), some (.int (nI b)), some (.int (nI u)), some (.int (nI (popc u)))]) dX3_toShut_141 (Nat.le_of_ble_eq_true rfl) (Nat.le_of_ble_eq_true rfl) (jnl_at (i := 7) rfl) rfl ?_
                      refine e_iload dX3_toShut_143 rfl ?_
                      refine e_istore (L' := [some (.ref 0), some (.int (nI p)), some (.int (nI d)), some (.int (nI r)), some (.int (nI i)), some (.int (nI n)), some (.int w), some (.int 0), some (.int (nI (popc u))), some (.int (nI u)), some (.int (nI u)), some (.int (nI (popc u)))]) dX3_toShut_145 (Nat.le_of_ble_eq_true rfl) (Nat.le_of_ble_eq_true rfl) (jnl_at (i := 8) rfl) rfl ?_
                      refine e_iinc (v := nI (u + 1)) (L' := [some (.ref 0), some (.int (nI p)), some (.int (nI d)), some (.int (nI r)), some (.int (nI i)), some (.int (nI n)), some (.int w), some (.int 0), some (.int (nI (popc u))), some (.int (nI u)), some (.int (nI (u + 1))), some (.int (nI (popc u)))]) dX3_toShut_147 rfl (j_inc rfl) (by decide) (jnl_at (i := 9) rfl) rfl ?_
                      refine e_goto 88 dX3_toShut_150 (by decide) ?_
                      refine e_weak [some (.ref 0), some (.int (nI p)), some (.int (nI d)), some (.int (nI r)), some (.int (nI i)), some (.int (nI n)), some (.int w), some (.int 0), some (.int (nI (popc u))), some (.int (nI u)), some (.int (nI (u + 1))), none] (by simp [jle]) ?_
                      have eB : shB st tn d n V P p (u + 1) = some u := by first | exact shB_y0 (Classical.byContradiction c116) hsb q | exact shB_y1 (Classical.byContradiction c116) hsb ((j_lt (by have := popc_le u; omega) (by have := popc_le b; omega)).mp (Int32.not_le.mp c123)) q | exact shB_y0 c116 hsb q | exact shB_y1 c116 hsb ((j_lt (by have := popc_le u; omega) (by have := popc_le b; omega)).mp (Int32.not_le.mp c123)) q
                      refine e_start (by simp only [eB]; (try rw [hsb]); (try rfl)) rfl (ih () mv ⟨hqv, fun j hj => by rw [e91v]; exact h91 j hj⟩)
                    · refine e_if_eq 147 dX3_toShut_136 (by decide) (fun c136 => ?_) (fun h => absurd h (by decide))
                      refine e_iinc (v := nI (u + 1)) (L' := [some (.ref 0), some (.int (nI p)), some (.int (nI d)), some (.int (nI r)), some (.int (nI i)), some (.int (nI n)), some (.int w), some (.int 0), some (.int (nI (popc b))), some (.int (nI b)), some (.int (nI (u + 1))), some (.int (nI (popc u)))]) dX3_toShut_147 rfl (j_inc rfl) (by decide) (jnl_at (i := 9) rfl) rfl ?_
                      refine e_goto 88 dX3_toShut_150 (by decide) ?_
                      refine e_weak [some (.ref 0), some (.int (nI p)), some (.int (nI d)), some (.int (nI r)), some (.int (nI i)), some (.int (nI n)), some (.int w), some (.int 0), some (.int (nI (popc b))), some (.int (nI b)), some (.int (nI (u + 1))), none] (by simp [jle]) ?_
                      have eB : shB st tn d n V P p (u + 1) = shB st tn d n V P p u := shB_no q
                      refine e_start (by simp only [eB]; (try rw [hsb]); (try rfl)) rfl (ih () mv ⟨hqv, fun j hj => by rw [e91v]; exact h91 j hj⟩)
