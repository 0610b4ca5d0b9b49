/-! ===== the class: a text is read ===== -/
theorem s_takeT (m : jM) (len : Nat) (hl : len ≤ 120) (t : Nat → Int32) (ht : m 19 = t) (r : CR) (hr : ST m len r) (c : Int32) : vX mX2_take [.ref 18, .int c] m (fun m1 => XF m m1 ∧ m1 19 = t ∧ ST m1 len (stC t len c r)) := by
  subst ht
  exact vX_mono (s_take_ m len hl r hr c) (fun m1 h => ⟨h.1, h.1.1 19 (by decide), h.2⟩)
theorem s_takeNT (m : jM) (len : Nat) (hl : len ≤ 120) (t : Nat → Int32) (ht : m 19 = t) (r : CR) (hr : ST m len r) (lo hi : Int32) : iX mX2_takeNumber [.ref 18, .int lo, .int hi] m (fun v m1 => v = nvC t len lo hi r ∧ XF m m1 ∧ m1 19 = t ∧ ST m1 len (nmC t len lo hi r)) := by
  subst ht
  exact iX_mono (s_takeNum m len hl r hr lo hi) (fun v m1 h => ⟨h.1, h.2.1, h.2.1.1 19 (by decide), h.2.2⟩)
theorem s_stepT (m : jM) (len p : Nat) (hl : len ≤ 120) (t : Nat → Int32) (ht : m 19 = t) (hp : p ≤ len) (hs : m 18 1 = nI len) (hn : m 18 3 = nI p) (hf : m 18 6 = 0) : vX mX2_step [.ref 18] m (fun m1 => XF m m1 ∧ m1 19 = t ∧ ST m1 len (.inr p)) := by
  subst ht
  refine vX_mono (s_step m len p hl hp hs hn) (fun m1 h => ⟨h.1, h.1.1 19 (by decide), h.1.2.trans hs, hp, h.2.2.2.2.2.trans hf, ?_⟩)
  unfold tokS
  rw [h.1.1 19 (by decide)]
  exact ⟨h.2.1, h.2.2.1, h.2.2.2.1, h.2.2.2.2.1⟩
def sR1 (t : Nat → Int32) (len p : Nat) : CR := nmC t len 0 6 (.inr (tkQ t len p))
def sA (t : Nat → Int32) (len p : Nat) : Int32 := nvC t len 0 6 (.inr (tkQ t len p))
def sR2 (t : Nat → Int32) (len p : Nat) : CR := stC t len 44 (sR1 t len p)
def sB (t : Nat → Int32) (len p : Nat) : Int32 := nvC t len (sA t len p) 6 (sR2 t len p)
def sR3 (t : Nat → Int32) (len p : Nat) : CR := nmC t len (sA t len p) 6 (sR2 t len p)
def sR4 (t : Nat → Int32) (len p : Nat) : CR := stC t len 44 (sR3 t len p)
def sC (t : Nat → Int32) (len p : Nat) : Int32 := nvC t len 1 9 (sR4 t len p)
def sR5 (t : Nat → Int32) (len p : Nat) : CR := nmC t len 1 9 (sR4 t len p)
def sR6 (t : Nat → Int32) (len p : Nat) : CR := stC t len 59 (sR5 t len p)
def pR1 (t : Nat → Int32) (len p : Nat) : CR := nmC t len 0 127 (.inr (tkQ t len p))
def pA (t : Nat → Int32) (len p : Nat) : Int32 := nvC t len 0 127 (.inr (tkQ t len p))
def pR2 (t : Nat → Int32) (len p : Nat) : CR := stC t len 44 (pR1 t len p)
def pB (t : Nat → Int32) (len p : Nat) : Int32 := nvC t len 1 20 (pR2 t len p)
def pR3 (t : Nat → Int32) (len p : Nat) : CR := nmC t len 1 20 (pR2 t len p)
def pR4 (t : Nat → Int32) (len p : Nat) : CR := stC t len 44 (pR3 t len p)
def pC (t : Nat → Int32) (len V p : Nat) : Int32 := nvC t len 0 (nI (2 ^ V - 1)) (pR4 t len p)
def pR5 (t : Nat → Int32) (len V p : Nat) : CR := nmC t len 0 (nI (2 ^ V - 1)) (pR4 t len p)
def pR6 (t : Nat → Int32) (len V p : Nat) : CR := stC t len 59 (pR5 t len V p)
def liftR (r : CR) (rd : Nat → Int32) : PR := match r with
  | .inl x => .inl x
  | .inr q => .inr (rd, q)
theorem take_rel {t : Nat → Int32} {len : Nat} {rd : Nat → Int32} {c : Int32} {p : Nat} (hc : isLt c = true) : takeP t len rd c p = liftR (stC t len c (.inr p)) rd := by
  unfold takeP stC
  by_cases h : tokC t len p = c
  · rw [if_pos ((tokC_c hc).mp h)]
    dsimp only
    rw [if_pos h]
    rfl
  · rw [if_neg (fun z => h ((tokC_c hc).mpr z))]
    dsimp only
    rw [if_neg h]
    rfl
theorem num_rel {t : Nat → Int32} {len : Nat} {rd : Nat → Int32} {lo hi c : Int32} {a p : Nat} (hc : isLt c = true) : numM t len rd lo hi a c p = liftR (stC t len c (nmC t len lo hi (.inr p))) (upd rd a (nvC t len lo hi (.inr p))) := by
  unfold numM nmC nvC
  dsimp only
  by_cases h : tkT t len p = 2
  · rw [if_pos h, if_pos h, if_pos h]
    by_cases h2 : lo ≤ tkW t len p ∧ tkW t len p ≤ hi
    · rw [if_pos h2, if_pos h2, if_pos h2]
      exact take_rel hc
    · rw [if_neg h2, if_neg h2]
      rfl
  · rw [if_neg h, if_neg h]
    rfl
theorem nv_ran {t : Nat → Int32} {len : Nat} {lo hi : Int32} {p q : Nat} (h : nmC t len lo hi (.inr p) = .inr q) : lo ≤ nvC t len lo hi (.inr p) ∧ nvC t len lo hi (.inr p) ≤ hi := by
  unfold nmC at h
  unfold nvC
  dsimp only at h ⊢
  by_cases h1 : tkT t len p = 2
  · rw [if_pos h1] at h ⊢
    by_cases h2 : lo ≤ tkW t len p ∧ tkW t len p ≤ hi
    · rw [if_pos h2]; exact h2
    · rw [if_neg h2] at h; cases h
  · rw [if_neg h1] at h; cases h
theorem stC_l (t : Nat → Int32) (len : Nat) (c : Int32) (x : Int32 × Nat) : stC t len c (.inl x) = .inl x := rfl
theorem nmC_l (t : Nat → Int32) (len : Nat) (lo hi : Int32) (x : Int32 × Nat) : nmC t len lo hi (.inl x) = .inl x := rfl
theorem sng_rel {t : Nat → Int32} {len : Nat} {rd : Nat → Int32} {V p : Nat} (hV : V < 3) : sngM t len rd V 0 p = liftR (sR6 t len p) (upd (upd (upd (upd rd 1 (nI (V + 1))) (4 + V) (sA t len p)) (7 + V) (sB t len p)) (10 + V) (sC t len p)) := by
  unfold sngM
  rw [if_neg (by omega), num_rel (by decide)]
  show bindPR (liftR (sR2 t len p) (upd (upd rd 1 (nI (V + 1))) (4 + V) (sA t len p))) _ = _
  unfold sR6 sR5 sR4 sR3 sC sB sR4 sR3
  rcases sR2 t len p with x | q
  · rfl
  · show bindPR (numM t len (upd (upd rd 1 (nI (V + 1))) (4 + V) (sA t len p)) ((upd (upd rd 1 (nI (V + 1))) (4 + V) (sA t len p)) (4 + V)) 6 (7 + V) 44 q) _ = _
    rw [upd_s, num_rel (by decide)]
    rcases stC t len 44 (nmC t len (sA t len p) 6 (.inr q)) with x | q2
    · rfl
    · show numM t len _ 1 9 (10 + V) 59 q2 = _
      rw [num_rel (by decide)]
theorem pan_rel {t : Nat → Int32} {len : Nat} {rd : Nat → Int32} {V P p : Nat} {kd : Int32} (hP : P < 5) : panM t len rd V P kd p = liftR (pR6 t len V p) (upd (upd (upd (upd (upd (upd rd (16 + P) kd) (46 + P) (-1000000)) 2 (nI (P + 1))) (21 + P) (pA t len p)) (26 + P) (pB t len p)) (31 + P) (pC t len V p)) := by
  unfold panM
  rw [if_neg (by omega), num_rel (by decide)]
  show bindPR (liftR (pR2 t len p) (upd (upd (upd (upd rd (16 + P) kd) (46 + P) (-1000000)) 2 (nI (P + 1))) (21 + P) (pA t len p))) _ = _
  unfold pR6 pR5 pR4 pR3 pC pB pR4 pR3
  rcases pR2 t len p with x | q
  · rfl
  · show bindPR (numM t len _ 1 20 (26 + P) 44 q) _ = _
    rw [num_rel (by decide)]
    rcases stC t len 44 (nmC t len 1 20 (.inr q)) with x | q2
    · rfl
    · show numM t len _ 0 (nI (2 ^ V - 1)) (31 + P) 59 q2 = _
      rw [num_rel (by decide)]
theorem stC_r {t : Nat → Int32} {len : Nat} {c : Int32} {r : CR} {q : Nat} (h : stC t len c r = .inr q) : ∃ p, r = .inr p := by
  rcases r with x | p
  · cases h
  · exact ⟨p, rfl⟩
theorem nmC_r {t : Nat → Int32} {len : Nat} {lo hi : Int32} {r : CR} {q : Nat} (h : nmC t len lo hi r = .inr q) : ∃ p, r = .inr p ∧ lo ≤ nvC t len lo hi r ∧ nvC t len lo hi r ≤ hi := by
  rcases r with x | p
  · cases h
  · exact ⟨p, rfl, nv_ran h⟩
theorem pan_ran {t : Nat → Int32} {len V p q : Nat} (h : pR6 t len V p = .inr q) : (0 ≤ pA t len p ∧ pA t len p ≤ 127) ∧ (1 ≤ pB t len p ∧ pB t len p ≤ 20) ∧ (0 ≤ pC t len V p ∧ pC t len V p ≤ nI (2 ^ V - 1)) := by
  obtain ⟨q5, h5⟩ := stC_r h
  obtain ⟨q4, h4, r3⟩ := nmC_r h5
  obtain ⟨q3, h3⟩ := stC_r h4
  obtain ⟨q2, h2, r2⟩ := nmC_r h3
  obtain ⟨q1, h1⟩ := stC_r h2
  exact ⟨nv_ran h1, r2, r3⟩
/-- the trial's kitchen while a text is read, as what the reference has read -/
def KR (m : jM) (rd : Nat → Int32) (V P : Nat) : Prop := RK m 31 rd V P ∧ m 31 0 = 1 ∧ (∀ s, s < 3 → m 38 s = 0) ∧ (∀ p, p < 5 → m 40 p = 0) ∧ (∀ p, p < 5 → m 41 p = -1000000) ∧ rd 1 = nI V ∧ rd 2 = nI P ∧ rd 3 = 0 ∧ (∀ i, 13 ≤ i → i < 16 → rd i = 0) ∧ (∀ i, 36 ≤ i → i < 46 → rd i = 0) ∧ (1 ≤ rd 0 ∧ rd 0 ≤ 9) ∧ (∀ p, p < P → rd (46 + p) = -1000000 ∧ (1 ≤ rd (26 + p) ∧ rd (26 + p) ≤ 20) ∧ (1 ≤ rd (16 + p) ∧ rd (16 + p) ≤ 5) ∧ (0 ≤ rd (21 + p) ∧ rd (21 + p) ≤ 127) ∧ (0 ≤ rd (31 + p) ∧ rd (31 + p) ≤ 7))
theorem KR.wk {m : jM} {rd : Nat → Int32} {V P : Nat} (h : KR m rd V P) (hV : V ≤ 3) (hP : P ≤ 5) : WK rd V P := by
  obtain ⟨-, -, -, -, -, -, -, -, -, h36, hb, hp⟩ := h
  refine ⟨hV, hP, hb, fun p q => ?_, fun p q z => ?_, fun p q => Or.inl (hp p q).1, fun p q => ?_, fun p q => (hp p q).2.1, fun p q => (hp p q).2.2.1, fun p q => (hp p q).2.2.2.1, fun p q => (hp p q).2.2.2.2⟩
  · rw [h36 _ (by omega) (by omega), h36 (36 + p) (by omega) (by omega), if_neg (fun z => absurd (Int32.le_trans (hp p q).2.1.1 z) (by decide))]
  · exact (hp p q).1
  · rw [h36 (36 + p) (by omega) (by omega)]; decide
theorem KR.fr {m m1 : jM} {rd : Nat → Int32} {V P : Nat} (h : KR m rd V P) (e : ∀ c, 31 ≤ c → c ≤ 41 → m1 c = m c) : KR m1 rd V P := by
  obtain ⟨h1, h2, h3, h4, h5, h6⟩ := h
  exact ⟨h1.fr (fun c a b => e c a (by omega)), by rw [e 31 (by decide) (by decide)]; exact h2, fun s q => by rw [e 38 (by decide) (by decide)]; exact h3 s q, fun s q => by rw [e 40 (by decide) (by decide)]; exact h4 s q, fun s q => by rw [e 41 (by decide) (by decide)]; exact h5 s q, h6⟩
theorem KR.sng {m m1 : jM} {rd : Nat → Int32} {V : Nat} (hV : V < 3) (h : KR m rd V 0) (a b c : Int32) (e31 : m1 31 = upd (m 31) 2 (nI (V + 1))) (e32 : m1 32 = upd (m 32) V a) (e33 : m1 33 = upd (m 33) V b) (e34 : m1 34 = upd (m 34) V c) (e : ∀ c, 35 ≤ c → c ≤ 41 → m1 c = m c) : KR m1 (upd (upd (upd (upd rd 1 (nI (V + 1))) (4 + V) a) (7 + V) b) (10 + V) c) (V + 1) 0 := by
  obtain ⟨hR, h2, h3, h4, h5, h6, h7, h8, h9, h10, h11, h12⟩ := h
  have g : ∀ i, i ≠ 1 → i ≠ 4 + V → i ≠ 7 + V → i ≠ 10 + V → upd (upd (upd (upd rd 1 (nI (V + 1))) (4 + V) a) (7 + V) b) (10 + V) c i = rd i := fun i a b c d => by
    rw [upd_n _ _ d, upd_n _ _ c, upd_n _ _ b, upd_n _ _ a]
  refine ⟨⟨?_, ?_, ?_, ?_, ?_, ?_, ?_, ?_, fun p hp => absurd hp (Nat.not_lt_zero p), fun p hp => absurd hp (Nat.not_lt_zero p), fun p hp => absurd hp (Nat.not_lt_zero p), fun p hp => absurd hp (Nat.not_lt_zero p), fun p hp => absurd hp (Nat.not_lt_zero p), fun p hp => absurd hp (Nat.not_lt_zero p)⟩, ?_, fun s hs => ?_, fun p hp => ?_, fun p hp => ?_, ?_, ?_, ?_, fun i a b => ?_, fun i a b => ?_, ?_, fun p hp => absurd hp (Nat.not_lt_zero p)⟩
  · rw [e31, upd_n _ _ (by decide), g 0 (by omega) (by omega) (by omega) (by omega)]; exact hR.bk
  · rw [e31, upd_s]
  · rw [e31, upd_n _ _ (by decide)]; exact hR.ps
  · rw [e31, upd_n _ _ (by decide), g 3 (by omega) (by omega) (by omega) (by omega)]; exact hR.br
  · intro s hs
    show m1 32 s = _
    rw [e32]
    by_cases q : s = V
    · rw [q, upd_s, upd_n _ _ (by omega), upd_n _ _ (by omega), upd_s]
    · rw [upd_n _ _ q, g _ (by omega) (by omega) (by omega) (by omega)]; exact hR.lo s (by omega)
  · intro s hs
    show m1 33 s = _
    rw [e33]
    by_cases q : s = V
    · rw [q, upd_s, upd_n _ _ (by omega), upd_s]
    · rw [upd_n _ _ q, g _ (by omega) (by omega) (by omega) (by omega)]; exact hR.hi s (by omega)
  · intro s hs
    show m1 34 s = _
    rw [e34]
    by_cases q : s = V
    · rw [q, upd_s, upd_s]
    · rw [upd_n _ _ q, g _ (by omega) (by omega) (by omega) (by omega)]; exact hR.bt s (by omega)
  · intro s hs
    show m1 38 s = _
    rw [e 38 (by decide) (by decide), g _ (by omega) (by omega) (by omega) (by omega), h9 _ (by omega) (by omega)]
    exact h3 s (by omega)
  · rw [e31, upd_n _ _ (by decide)]; exact h2
  · rw [e 38 (by decide) (by decide)]; exact h3 s hs
  · rw [e 40 (by decide) (by decide)]; exact h4 p hp
  · rw [e 41 (by decide) (by decide)]; exact h5 p hp
  · rw [upd_n _ _ (by omega), upd_n _ _ (by omega), upd_n _ _ (by omega), upd_s]
  · rw [g _ (by omega) (by omega) (by omega) (by omega)]; exact h7
  · rw [g _ (by omega) (by omega) (by omega) (by omega)]; exact h8
  · rw [g _ (by omega) (by omega) (by omega) (by omega)]; exact h9 i a b
  · rw [g _ (by omega) (by omega) (by omega) (by omega)]; exact h10 i a b
  · rw [g _ (by omega) (by omega) (by omega) (by omega)]; exact h11
theorem KR.pan {m m1 : jM} {rd : Nat → Int32} {V P : Nat} (hV : V ≤ 3) (hP : P < 5) (h : KR m rd V P) (k a b c : Int32) (hk : 1 ≤ k ∧ k ≤ 5) (ha : 0 ≤ a ∧ a ≤ 127) (hb : 1 ≤ b ∧ b ≤ 20) (hc : 0 ≤ c ∧ c ≤ nI (2 ^ V - 1)) (e31 : m1 31 = upd (m 31) 6 (nI (P + 1))) (e35 : m1 35 = upd (m 35) P k) (e36 : m1 36 = upd (m 36) P a) (e37 : m1 37 = upd (m 37) P b) (e39 : m1 39 = upd (m 39) P c) (e : ∀ c, c = 32 ∨ c = 33 ∨ c = 34 ∨ c = 38 ∨ c = 40 ∨ c = 41 → m1 c = m c) : KR m1 (upd (upd (upd (upd (upd (upd rd (16 + P) k) (46 + P) (-1000000)) 2 (nI (P + 1))) (21 + P) a) (26 + P) b) (31 + P) c) V (P + 1) := by
  obtain ⟨hR, h2, h3, h4, h5, h6, h7, h8, h9, h10, h11, h12⟩ := h
  have g : ∀ i, i ≠ 16 + P → i ≠ 46 + P → i ≠ 2 → i ≠ 21 + P → i ≠ 26 + P → i ≠ 31 + P → upd (upd (upd (upd (upd (upd rd (16 + P) k) (46 + P) (-1000000)) 2 (nI (P + 1))) (21 + P) a) (26 + P) b) (31 + P) c i = rd i := fun i a b c d x y => by
    rw [upd_n _ _ y, upd_n _ _ x, upd_n _ _ d, upd_n _ _ c, upd_n _ _ b, upd_n _ _ a]
  have g16 : upd (upd (upd (upd (upd (upd rd (16 + P) k) (46 + P) (-1000000)) 2 (nI (P + 1))) (21 + P) a) (26 + P) b) (31 + P) c (16 + P) = k := by
    rw [upd_n _ _ (by omega), upd_n _ _ (by omega), upd_n _ _ (by omega), upd_n _ _ (by omega), upd_n _ _ (by omega), upd_s]
  have g46 : upd (upd (upd (upd (upd (upd rd (16 + P) k) (46 + P) (-1000000)) 2 (nI (P + 1))) (21 + P) a) (26 + P) b) (31 + P) c (46 + P) = -1000000 := by
    rw [upd_n _ _ (by omega), upd_n _ _ (by omega), upd_n _ _ (by omega), upd_n _ _ (by omega), upd_s]
  have g2 : upd (upd (upd (upd (upd (upd rd (16 + P) k) (46 + P) (-1000000)) 2 (nI (P + 1))) (21 + P) a) (26 + P) b) (31 + P) c 2 = nI (P + 1) := by
    rw [upd_n _ _ (by omega), upd_n _ _ (by omega), upd_n _ _ (by omega), upd_s]
  have g21 : upd (upd (upd (upd (upd (upd rd (16 + P) k) (46 + P) (-1000000)) 2 (nI (P + 1))) (21 + P) a) (26 + P) b) (31 + P) c (21 + P) = a := by
    rw [upd_n _ _ (by omega), upd_n _ _ (by omega), upd_s]
  have g26 : upd (upd (upd (upd (upd (upd rd (16 + P) k) (46 + P) (-1000000)) 2 (nI (P + 1))) (21 + P) a) (26 + P) b) (31 + P) c (26 + P) = b := by
    rw [upd_n _ _ (by omega), upd_s]
  have g31 : upd (upd (upd (upd (upd (upd rd (16 + P) k) (46 + P) (-1000000)) 2 (nI (P + 1))) (21 + P) a) (26 + P) b) (31 + P) c (31 + P) = c := by
    rw [upd_s]
  have hc7 : 0 ≤ c ∧ c ≤ 7 := by
    refine ⟨hc.1, Int32.le_trans hc.2 ?_⟩
    have : V = 0 ∨ V = 1 ∨ V = 2 ∨ V = 3 := by omega
    rcases this with rfl | rfl | rfl | rfl <;> decide
  generalize upd (upd (upd (upd (upd (upd rd (16 + P) k) (46 + P) (-1000000)) 2 (nI (P + 1))) (21 + P) a) (26 + P) b) (31 + P) c = rd' at g g16 g46 g2 g21 g26 g31 ⊢
  have arr : ∀ (x o : Nat) (y : Int32), (o = 16 ∨ o = 21 ∨ o = 26 ∨ o = 31) → m1 x = upd (m x) P y → rd' (o + P) = y → (∀ p, p < P → m x p = rd (o + p)) → ∀ p, p < P + 1 → m1 x p = rd' (o + p) := by
    intro x o y ho ex ey hold p hp
    rw [ex]
    by_cases q : p = P
    · rw [q, upd_s, ey]
    · rw [upd_n _ _ q, g _ (by omega) (by omega) (by omega) (by omega) (by omega) (by omega)]; exact hold p (by omega)
  refine ⟨⟨?_, ?_, ?_, ?_, ?_, ?_, ?_, ?_, ?_, ?_, ?_, ?_, ?_, ?_⟩, ?_, fun s hs => ?_, fun p hp => ?_, fun p hp => ?_, ?_, ?_, ?_, fun i a b => ?_, fun i a b => ?_, ?_, fun p hp => ?_⟩
  · rw [e31, upd_n _ _ (by decide), g 0 (by omega) (by omega) (by omega) (by omega) (by omega) (by omega)]; exact hR.bk
  · rw [e31, upd_n _ _ (by decide)]; exact hR.vs
  · rw [e31, upd_s]
  · rw [e31, upd_n _ _ (by decide), g 3 (by omega) (by omega) (by omega) (by omega) (by omega) (by omega)]; exact hR.br
  · intro s hs
    show m1 32 s = _
    rw [e 32 (by omega), g _ (by omega) (by omega) (by omega) (by omega) (by omega) (by omega)]; exact hR.lo s hs
  · intro s hs
    show m1 33 s = _
    rw [e 33 (by omega), g _ (by omega) (by omega) (by omega) (by omega) (by omega) (by omega)]; exact hR.hi s hs
  · intro s hs
    show m1 34 s = _
    rw [e 34 (by omega), g _ (by omega) (by omega) (by omega) (by omega) (by omega) (by omega)]; exact hR.bt s hs
  · intro s hs
    show m1 38 s = _
    rw [e 38 (by omega), g _ (by omega) (by omega) (by omega) (by omega) (by omega) (by omega)]; exact hR.sg s hs
  · exact arr 35 16 k (by omega) e35 g16 hR.kd
  · exact arr 36 21 a (by omega) e36 g21 hR.md
  · exact arr 37 26 b (by omega) e37 g26 hR.nd
  · exact arr 39 31 c (by omega) e39 g31 hR.hr
  · intro p hp
    show m1 40 p = _
    rw [e 40 (by omega), g _ (by omega) (by omega) (by omega) (by omega) (by omega) (by omega), h10 _ (by omega) (by omega)]; exact h4 p (by omega)
  · intro p hp
    show m1 41 p = _
    rw [e 41 (by omega)]
    by_cases q : p = P
    · rw [q, g46]; exact h5 P hP
    · rw [g _ (by omega) (by omega) (by omega) (by omega) (by omega) (by omega)]; exact hR.hd p (by omega)
  · rw [e31, upd_n _ _ (by decide)]; exact h2
  · rw [e 38 (by omega)]; exact h3 s hs
  · rw [e 40 (by omega)]; exact h4 p hp
  · rw [e 41 (by omega)]; exact h5 p hp
  · rw [g _ (by omega) (by omega) (by omega) (by omega) (by omega) (by omega)]; exact h6
  · exact g2
  · rw [g _ (by omega) (by omega) (by omega) (by omega) (by omega) (by omega)]; exact h8
  · rw [g _ (by omega) (by omega) (by omega) (by omega) (by omega) (by omega)]; exact h9 i a b
  · rw [g _ (by omega) (by omega) (by omega) (by omega) (by omega) (by omega)]; exact h10 i a b
  · rw [g _ (by omega) (by omega) (by omega) (by omega) (by omega) (by omega)]; exact h11
  · by_cases q : p = P
    · rw [q, g46, g26, g16, g21, g31]
      exact ⟨rfl, hb, hk, ha, hc7⟩
    · rw [g (46 + p) (by omega) (by omega) (by omega) (by omega) (by omega) (by omega), g (26 + p) (by omega) (by omega) (by omega) (by omega) (by omega) (by omega), g (16 + p) (by omega) (by omega) (by omega) (by omega) (by omega) (by omega), g (21 + p) (by omega) (by omega) (by omega) (by omega) (by omega) (by omega), g (31 + p) (by omega) (by omega) (by omega) (by omega) (by omega) (by omega)]
      exact h12 p (by omega)
def FR (m m1 : jM) : Prop := ∀ c, c ≠ 18 → (c < 31 ∨ 41 < c) → m1 c = m c
theorem FR.rf {m : jM} : FR m m := fun _ _ _ => rfl
theorem FR.tr {m m1 m2 : jM} (h : FR m m1) (h2 : FR m1 m2) : FR m m2 := fun c a b => (h2 c a b).trans (h c a b)
theorem XF.fr {m m1 : jM} (h : XF m m1) : FR m m1 := fun c a _ => h.1 c a
