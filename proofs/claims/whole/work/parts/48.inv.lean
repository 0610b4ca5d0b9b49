/-! ===== what holds between the class and the reference, between calls ===== -/
def vR (m : jM) : Prop := ∀ r, r < 8 → RW m r
def vT (m : jM) : Prop := m 19 = m 104 ∧ ∃ len : Nat, len ≤ 120 ∧ m 18 1 = nI len ∧ m 98 8 = nI len
def vK (m : jM) (V P : Nat) : Prop := V ≤ 3 ∧ P ≤ 5 ∧ RK m 20 (m 102) V P ∧ m 102 1 = nI V ∧ m 102 2 = nI P ∧ ((m 20 0 = 0 ∧ m 98 4 = 0 ∧ V = 0 ∧ P = 0) ∨ (m 20 0 = 1 ∧ m 98 4 = 1 ∧ WK (m 102) V P))
/-- the page of the act that is j acts old -/
def pgA (q j : Nat) : Nat := (q + 47 - j) % 24
def AP (m : jM) (pg : Nat) (st' : Nat → Int32) (V P : Nat) : Prop := PG m pg st' V P ∧ SS (m 102) st' ∧ WK st' V P
def vA (m : jM) (V P n q : Nat) : Prop := n ≤ 24 ∧ q < 24 ∧ m 0 6 = nI n ∧ m 0 7 = nI q ∧ m 98 18 = nI n ∧ ∀ j, j < n → AP m (66 + pgA q j) (fun i => m 107 (51 * (n - 1 - j) + i)) V P
def vI (m : jM) : Prop := ∀ k, k < 2 → (m (43 + 11 * k) 0 = 0 ∧ m 110 k = 0) ∨ (m (43 + 11 * k) 0 = 1 ∧ m 110 k = 1 ∧ m 98 4 = 1 ∧ ∃ V P, WK (fun i => m 111 (51 * k + i)) V P ∧ RK m (43 + 11 * k) (fun i => m 111 (51 * k + i)) V P ∧ m 111 (51 * k + 1) = nI V ∧ m 111 (51 * k + 2) = nI P)
def vZ (m : jM) : Prop := ∃ k : Nat, k ≤ 16 ∧ m 0 15 = nI k ∧ m 98 25 = nI k ∧ ∀ j, j < k → m 97 j = m 112 j
def Inv (m : jM) : Prop := vR m ∧ vT m ∧ (∃ V P n q, vK m V P ∧ vA m V P n q) ∧ vI m ∧ vZ m ∧ m 0 17 = m 98 3 ∧ m 0 16 = m 98 9
theorem RW.fr {m m1 : jM} {r : Nat} (hr : r < 8) (h : RW m r) (e : ∀ c, 2 ≤ c → c ≤ 17 → m1 c = m c) (e99 : m1 99 = m 99) (e100 : m1 100 = m 100) (e101 : m1 101 = m 101) : RW m1 r := by
  unfold RW
  rw [e (2 + 2 * r) (by omega) (by omega), e (2 + 2 * r + 1) (by omega) (by omega), e99, e100, e101]
  exact h
theorem vR.fr {m m1 : jM} (h : vR m) (e : ∀ c, 2 ≤ c → c ≤ 17 → m1 c = m c) (e99 : m1 99 = m 99) (e100 : m1 100 = m 100) (e101 : m1 101 = m 101) : vR m1 := fun r hr => (h r hr).fr hr e e99 e100 e101
theorem vR.one {m m1 : jM} (h : vR m) {r : Nat} (hr : r < 8) (hw : RW m1 r) (e : ∀ c, 2 ≤ c → c ≤ 17 → c ≠ 2 + 2 * r → c ≠ 2 + 2 * r + 1 → m1 c = m c) (e99 : ∀ j, j ≠ r → m1 99 j = m 99 j) (e100 : ∀ j, j ≠ r → m1 100 j = m 100 j) (e101 : ∀ j, j < 40 * r ∨ 40 * r + 40 ≤ j → m1 101 j = m 101 j) : vR m1 := fun k hk => by
  by_cases hkr : k = r
  · rw [hkr]; exact hw
  · have hm := h k hk
    unfold RW at hm ⊢
    rw [e (2 + 2 * k) (by omega) (by omega) (by omega) (by omega), e (2 + 2 * k + 1) (by omega) (by omega) (by omega) (by omega), e99 k hkr, e100 k hkr]
    rcases hm with h1 | ⟨h1, n, h2, h3, h4, h5, h6⟩
    · exact Or.inl h1
    · refine Or.inr ⟨h1, n, h2, h3, h4, h5, fun j hj => ?_⟩
      rw [e101 _ (by omega)]
      exact h6 j hj
theorem RW.at {m : jM} {r k : Nat} (h : RW m r) (hk : k ≤ 40) (e : m 100 r = nI k) : m (2 + 2 * r) 0 = 1 ∧ m (2 + 2 * r) 2 = nI k ∧ m (2 + 2 * r) 1 = m 99 r ∧ ∀ j, j < 40 → m (2 + 2 * r + 1) j = m 101 (40 * r + j) := by
  rcases h with ⟨-, h⟩ | ⟨h0, n, hn, h2, h3, h4, h5⟩
  · rw [e] at h
    exact absurd h (nI_nm1 (by omega))
  · have : n = k := (j_eq (by omega) (by omega)).mp (h3.symm.trans e)
    subst this
    exact ⟨h0, h2, h4, h5⟩
theorem vT.fr {m m1 : jM} (h : vT m) (e19 : m1 19 = m 19) (e104 : m1 104 = m 104) (e18 : m1 18 1 = m 18 1) (e98 : m1 98 8 = m 98 8) : vT m1 := by
  unfold vT
  rw [e19, e104, e18, e98]
  exact h
theorem vK.fr {m m1 : jM} {V P : Nat} (h : vK m V P) (e : ∀ c, 20 ≤ c → c ≤ 30 → m1 c = m c) (e98 : m1 98 4 = m 98 4) (e102 : m1 102 = m 102) : vK m1 V P := by
  obtain ⟨h1, h2, h3, h4, h5, h6⟩ := h
  refine ⟨h1, h2, by rw [e102]; exact h3.fr (fun c a b => e c (by omega) (by omega)), by rw [e102]; exact h4, by rw [e102]; exact h5, ?_⟩
  rw [e 20 (by decide) (by decide), e98, e102]
  exact h6
theorem vA.fr {m m1 : jM} {V P n q : Nat} (h : vA m V P n q) (e6 : m1 0 6 = m 0 6) (e7 : m1 0 7 = m 0 7) (e18 : m1 98 18 = m 98 18) (e : ∀ c, 66 ≤ c → c ≤ 89 → m1 c = m c) (e107 : m1 107 = m 107) (e102 : m1 102 = m 102) : vA m1 V P n q := by
  obtain ⟨h1, h2, h3, h4, h5, h6⟩ := h
  refine ⟨h1, h2, e6.trans h3, e7.trans h4, e18.trans h5, fun j hj => ?_⟩
  unfold AP
  rw [e107, e102]
  have hm : pgA q j < 24 := Nat.mod_lt _ (by decide)
  exact ⟨(h6 j hj).1.fr (e _ (by omega) (by omega)), (h6 j hj).2⟩
theorem vI.fr {m m1 : jM} (h : vI m) (e : ∀ c, 43 ≤ c → c ≤ 64 → m1 c = m c) (e110 : m1 110 = m 110) (e111 : m1 111 = m 111) (e4 : m1 98 4 = m 98 4) : vI m1 := fun k hk => by
  rw [e _ (by omega) (by omega), e110, e111, e4]
  rcases h k hk with h1 | ⟨h1, h2, h0, V, P, h3, h4, h5⟩
  · exact Or.inl h1
  · exact Or.inr ⟨h1, h2, h0, V, P, h3, h4.fr (fun c a b => e c (by omega) (by omega)), h5⟩
theorem vZ.fr {m m1 : jM} (h : vZ m) (e15 : m1 0 15 = m 0 15) (e25 : m1 98 25 = m 98 25) (e97 : m1 97 = m 97) (e112 : m1 112 = m 112) : vZ m1 := by
  unfold vZ
  rw [e15, e25, e97, e112]
  exact h
/-- what a call of the reference that only asks changes -/
def DQ (m m1 : jM) : Prop := (∀ c, c ≠ 98 → c ≠ 106 → c ≠ 108 → c ≠ 109 → m1 c = m c) ∧ ∀ f, f ≠ 3 → f ≠ 21 → m1 98 f = m 98 f
theorem SQ.hi {m m1 : jM} (h : SQ m m1) (c : Nat) (hc : 97 ≤ c) : m1 c = m c := h.1 c (by omega) (by omega) (by omega) (by omega) (by omega)
theorem Inv.ask {m m1 m2 : jM} (h : Inv m) (hq : SQ m m1) (hd : DQ m1 m2) (hs : m2 98 3 = m1 0 17) : Inv m2 := by
  obtain ⟨h1, h2, ⟨V, P, n, q, h3, h4⟩, h5, h6, h7, h8⟩ := h
  have ec : ∀ c, c ≠ 0 → c ≠ 90 → c ≠ 91 → (c < 31 ∨ 41 < c) → (c < 93 ∨ 96 < c) → c ≠ 98 → c ≠ 106 → c ≠ 108 → c ≠ 109 → m2 c = m c := fun c a b d e f g x y z => (hd.1 c g x y z).trans (hq.1 c a b d e f)
  have e0 : m2 0 = m1 0 := hd.1 0 (by decide) (by decide) (by decide) (by decide)
  have e98 : ∀ f, f ≠ 3 → f ≠ 21 → m2 98 f = m 98 f := fun f a b => (hd.2 f a b).trans (by rw [hq.hi 98 (by decide)])
  refine ⟨h1.fr (fun c a b => ec c (by omega) (by omega) (by omega) (by omega) (by omega) (by omega) (by omega) (by omega) (by omega)) (ec 99 (by decide) (by decide) (by decide) (by decide) (by decide) (by decide) (by decide) (by decide) (by decide)) (ec 100 (by decide) (by decide) (by decide) (by decide) (by decide) (by decide) (by decide) (by decide) (by decide)) (ec 101 (by decide) (by decide) (by decide) (by decide) (by decide) (by decide) (by decide) (by decide) (by decide)), ?_, ⟨V, P, n, q, ?_, ?_⟩, ?_, ?_, ?_, ?_⟩
  · exact h2.fr (ec 19 (by decide) (by decide) (by decide) (by decide) (by decide) (by decide) (by decide) (by decide) (by decide)) (ec 104 (by decide) (by decide) (by decide) (by decide) (by decide) (by decide) (by decide) (by decide) (by decide)) (by rw [ec 18 (by decide) (by decide) (by decide) (by decide) (by decide) (by decide) (by decide) (by decide) (by decide)]) (e98 8 (by decide) (by decide))
  · exact h3.fr (fun c a b => ec c (by omega) (by omega) (by omega) (by omega) (by omega) (by omega) (by omega) (by omega) (by omega)) (e98 4 (by decide) (by decide)) (ec 102 (by decide) (by decide) (by decide) (by decide) (by decide) (by decide) (by decide) (by decide) (by decide))
  · exact h4.fr (by rw [e0]; exact hq.2 6 (by decide) (by decide) (by decide) (by decide)) (by rw [e0]; exact hq.2 7 (by decide) (by decide) (by decide) (by decide)) (e98 18 (by decide) (by decide)) (fun c a b => ec c (by omega) (by omega) (by omega) (by omega) (by omega) (by omega) (by omega) (by omega) (by omega)) (ec 107 (by decide) (by decide) (by decide) (by decide) (by decide) (by decide) (by decide) (by decide) (by decide)) (ec 102 (by decide) (by decide) (by decide) (by decide) (by decide) (by decide) (by decide) (by decide) (by decide))
  · exact h5.fr (fun c a b => ec c (by omega) (by omega) (by omega) (by omega) (by omega) (by omega) (by omega) (by omega) (by omega)) (ec 110 (by decide) (by decide) (by decide) (by decide) (by decide) (by decide) (by decide) (by decide) (by decide)) (ec 111 (by decide) (by decide) (by decide) (by decide) (by decide) (by decide) (by decide) (by decide) (by decide)) (e98 4 (by decide) (by decide))
  · exact h6.fr (by rw [e0]; exact hq.2 15 (by decide) (by decide) (by decide) (by decide)) (e98 25 (by decide) (by decide)) (ec 97 (by decide) (by decide) (by decide) (by decide) (by decide) (by decide) (by decide) (by decide) (by decide)) (ec 112 (by decide) (by decide) (by decide) (by decide) (by decide) (by decide) (by decide) (by decide) (by decide))
  · rw [e0]; exact hs.symm
  · rw [e0, e98 9 (by decide) (by decide)]
    exact (hq.2 16 (by decide) (by decide) (by decide) (by decide)).trans h8
/-- one call of the class and one of the reference answer alike, and keep what holds -/
def SIM (Ma Mb : jMeth) (as : List Value) (m : jM) : Prop := iX Ma (.ref 0 :: as) m (fun v m1 => iX Mb (.ref 98 :: as) m1 (fun w m2 => w = v ∧ Inv m2))
theorem sim_bad {Ma Mb : jMeth} {as : List Value} {m : jM} {c : Int32} (hI : Inv m) (hA : iX Ma (.ref 0 :: as) m (fun v m1 => v = c ∧ m = m1)) (hB : iX Mb (.ref 98 :: as) m (fun v m1 => v = c ∧ m = m1)) : SIM Ma Mb as m :=
  iX_mono hA (fun v m1 h => by
    obtain ⟨rfl, rfl⟩ := h
    exact iX_mono hB (fun w m2 h2 => ⟨h2.1, by rw [← h2.2]; exact hI⟩))
theorem sim_ask {Ma Mb : jMeth} {as : List Value} {m : jM} {y x : Int32} (hI : Inv m) (hA : iX Ma (.ref 0 :: as) m (fun v m1 => v = y ∧ SQ m m1 ∧ m1 0 17 = x)) (hB : ∀ m1, SQ m m1 → iX Mb (.ref 98 :: as) m1 (fun w m2 => w = y ∧ DQ m1 m2 ∧ m2 98 3 = x)) : SIM Ma Mb as m :=
  iX_mono hA (fun v m1 h => by
    obtain ⟨e1, hq, e2⟩ := h
    exact iX_mono (hB m1 hq) (fun w m2 h2 => ⟨h2.1.trans e1.symm, hI.ask hq h2.2.1 (h2.2.2.trans e2.symm)⟩))
theorem DQ.s (m : jM) (x : Int32) : DQ m (jst m 98 3 x) := ⟨fun c a _ _ _ => jst_n _ _ _ a, fun f a _ => by rw [jst_s, upd_n _ _ a]⟩
theorem DQ.rf {m : jM} : DQ m m := ⟨fun _ _ _ _ _ => rfl, fun _ _ _ => rfl⟩
theorem DQ.a (m : jM) (f : Nat → Int32) (x : Int32) : DQ m (jst (jup (asdM m) 106 f) 98 3 x) := by
  unfold asdM
  refine ⟨fun c a b d e => ?_, fun g a _ => ?_⟩
  · rw [jst_n _ _ _ a, jup_n _ _ b, jup_n _ _ d]
  · rw [jst_s, upd_n _ _ a, jup_n _ _ (by decide), jup_n _ _ (by decide)]
theorem jst3 (m : jM) (x : Int32) : jst m 98 3 x 98 3 = x := by rw [jst_s, upd_s]
/-- a finding -/
theorem sim_find {Ma Mb : jMeth} {as : List Value} {m : jM} {f c : Int32} (hI : Inv m) (hA : iX Ma (.ref 0 :: as) m (fun v m1 => v = c ∧ jst m 0 17 f = m1)) (hB : iX Mb (.ref 98 :: as) (jst m 0 17 f) (fun v m1 => v = c ∧ jst (jst m 0 17 f) 98 3 f = m1)) : SIM Ma Mb as m :=
  iX_mono hA (fun v m1 h => by
    obtain ⟨rfl, rfl⟩ := h
    exact iX_mono hB (fun w m2 h2 => ⟨h2.1, by rw [← h2.2]; exact hI.ask (SQ.s m f) (DQ.s _ f) (by rw [jst3, jup_s, upd_s])⟩))
theorem lackM_q (m : jM) (r : Nat) (i : Int32) (n : Nat) : DQ m (lackM m r i n) := by
  unfold lackM
  split
  · exact DQ.s m 1
  · split
    · exact DQ.s m 2
    · exact DQ.rf
theorem lackM_3 {m m1 : jM} {r : Nat} {i : Int32} {n : Nat} (e : m1 100 = m 100) (e3 : m1 98 3 = m 0 17) : lackM m1 r i n 98 3 = lackX m r i n := by
  unfold lackM lackX
  rw [e]
  split
  · exact jst3 _ _
  · split
    · exact jst3 _ _
    · exact e3
theorem lackV_e {m m1 : jM} {r : Nat} {i : Int32} {n : Nat} (e : m1 100 = m 100) : lackV m1 r i n = lackV m r i n := by
  unfold lackV
  rw [e]
theorem tune_e {m m1 : jM} {r : Nat} {i : Int32} {n : Nat} (e : m1 100 = m 100) (e2 : m1 101 = m 101) (h : ¬ tuneOK m r i n) : ¬ tuneOK m1 r i n := by
  unfold tuneOK at h ⊢
  rw [e, e2]
  exact h
/-- a tune that cannot be taken -/
theorem sim_lack {Ma Mb : jMeth} {as : List Value} {m : jM} {r : Nat} {i : Int32} {n : Nat} (hI : Inv m) (hA : iX Ma (.ref 0 :: as) m (fun v m1 => v = lackV m r i n ∧ SQ m m1 ∧ m1 0 17 = lackX m r i n)) (hB : ∀ m1, SQ m m1 → iX Mb (.ref 98 :: as) m1 (fun v m2 => v = lackV m1 r i n ∧ lackM m1 r i n = m2)) : SIM Ma Mb as m :=
  sim_ask hI hA (fun m1 hq => iX_mono (hB m1 hq) (fun w m2 h => ⟨h.1.trans (lackV_e (hq.hi 100 (by decide))), by rw [← h.2]; exact lackM_q _ _ _ _, by rw [← h.2]; exact lackM_3 (hq.hi 100 (by decide)) (by rw [hq.hi 98 (by decide)]; exact hI.2.2.2.2.2.1.symm)⟩))
theorem Inv.row {m : jM} (h : Inv m) {r : Nat} (hr : r < 8) : RW m r := h.1 r hr
theorem RK.cg {m : jM} {kc : Nat} {st st' : Nat → Int32} {V P : Nat} (h : RK m kc st V P) (hV : V ≤ 3) (hP : P ≤ 5) (e : ∀ i, i < 51 → st' i = st i) : RK m kc st' V P := by
  refine ⟨?_, h.vs, h.ps, ?_, ?_, ?_, ?_, ?_, ?_, ?_, ?_, ?_, ?_, ?_⟩
  · rw [e 0 (by decide)]; exact h.bk
  · rw [e 3 (by decide)]; exact h.br
  · intro s hs; rw [e _ (by omega)]; exact h.lo s hs
  · intro s hs; rw [e _ (by omega)]; exact h.hi s hs
  · intro s hs; rw [e _ (by omega)]; exact h.bt s hs
  · intro s hs; rw [e _ (by omega)]; exact h.sg s hs
  · intro s hs; rw [e _ (by omega)]; exact h.kd s hs
  · intro s hs; rw [e _ (by omega)]; exact h.md s hs
  · intro s hs; rw [e _ (by omega)]; exact h.nd s hs
  · intro s hs; rw [e _ (by omega)]; exact h.hr s hs
  · intro s hs; rw [e _ (by omega)]; exact h.tk s hs
  · intro s hs; rw [e _ (by omega)]; exact h.hd s hs
theorem PG.cg {m : jM} {pg : Nat} {st st' : Nat → Int32} {V P : Nat} (h : PG m pg st V P) (hV : V ≤ 3) (hP : P ≤ 5) (e : ∀ i, i < 51 → st' i = st i) : PG m pg st' V P := by
  obtain ⟨h1, h2, h3, h4, h5⟩ := h
  refine ⟨?_, ?_, ?_, ?_, ?_⟩
  · rw [e 3 (by decide)]; exact h1
  · intro s hs; rw [e _ (by omega)]; exact h2 s hs
  · intro s hs; rw [e _ (by omega)]; exact h3 s hs
  · intro s hs; rw [e _ (by omega)]; exact h4 s hs
  · intro s hs; rw [e _ (by omega)]; exact h5 s hs
theorem pgA_0 {q : Nat} (hq : q < 24) : pgA (nxA q) 0 = q := by
  unfold pgA nxA
  split <;> omega
theorem pgA_s {q j : Nat} (hq : q < 24) (hj : j < 24) : pgA (nxA q) (j + 1) = pgA q j := by
  unfold pgA nxA
  split <;> omega
theorem pgA_ne {q j : Nat} (hq : q < 24) (hj : j < 23) : pgA q j ≠ q := by
  unfold pgA
  omega
theorem pgA_p0 {q : Nat} (hq : q < 24) : pgA q 0 = pvA q := by
  unfold pgA pvA
  split <;> omega
theorem pgA_p {q j : Nat} (hq : q < 24) (hj : j < 23) : pgA (pvA q) j = pgA q (j + 1) := by
  unfold pgA pvA
  split <;> omega
theorem note_new {acts st : Nat → Int32} {n i : Nat} (hn : n ≤ 24) (hi : i < 51) : noteA acts st n (51 * (noteN n - 1) + i) = st i := by
  unfold noteA noteN
  by_cases h : n = 24
  · subst h
    rw [if_pos rfl, if_pos rfl]
    have := cpy_at (f := st) (g := va_cpy (va_cpy acts acts 51 0 1173 : Nat → Int32) (va_cpy acts acts 51 0 1173) 0 0 0) (sp := 0) (dp := 1173) (n := 51) (j := i) (i := 1173 + i) hi rfl
    rw [show 51 * (24 - 1) + i = 1173 + i by omega]
    exact (cpy_at hi rfl).trans (by rw [Nat.zero_add])
  · rw [if_neg h, if_neg h]
    exact (cpy_at hi (by omega)).trans (by rw [Nat.zero_add])
theorem note_old {acts st : Nat → Int32} {n j i : Nat} (hn : n ≤ 24) (hj : j + 1 < noteN n) (hi : i < 51) : noteA acts st n (51 * (noteN n - 1 - (j + 1)) + i) = acts (51 * (n - 1 - j) + i) := by
  unfold noteA
  unfold noteN at hj ⊢
  by_cases h : n = 24
  · subst h
    rw [if_pos rfl] at hj
    rw [if_pos rfl, if_pos rfl]
    refine (cpy_out (by omega)).trans ?_
    have := cpy_at (f := acts) (g := acts) (sp := 51) (dp := 0) (n := 1173) (j := 51 * (24 - 1 - (j + 1)) + i) (i := 51 * (24 - 1 - (j + 1)) + i) (by omega) (by omega)
    rw [this]
    congr 1
    omega
  · rw [if_neg h] at hj
    rw [if_neg h, if_neg h]
    refine (cpy_out (by omega)).trans ?_
    congr 1
    omega
/-- an act is kept on both sides -/
theorem vA.push {m m2 : jM} {V P n q : Nat} (h : vA m V P n q) (hW : WK (m 102) V P) (hp : PG m2 (66 + q) (m 102) V P) (ep : ∀ c, 66 ≤ c → c ≤ 89 → c ≠ 66 + q → m2 c = m c) (e6 : m2 0 6 = nI (noteN n)) (e7 : m2 0 7 = nI (nxA q)) (e18 : m2 98 18 = nI (noteN n)) (e107 : m2 107 = noteA (m 107) (m 102) n) (hS : SS (m 102) (m2 102)) : vA m2 V P (noteN n) (nxA q) := by
  obtain ⟨h1, h2, h3, h4, h5, h6⟩ := h
  have hV := hW.v3
  have hP := hW.p5
  refine ⟨by unfold noteN; split <;> omega, nxA_lt h2, e6, e7, e18, fun j hj => ?_⟩
  rcases j with _ | j
  · rw [pgA_0 h2]
    have e : ∀ i, i < 51 → m2 107 (51 * (noteN n - 1 - 0) + i) = m 102 i := fun i hi => by rw [e107, Nat.sub_zero]; exact note_new h1 hi
    exact ⟨hp.cg hV hP e, fun i hi => (e i (by omega)).trans (hS i hi).symm, hW.cg (fun i hi _ _ => e i hi)⟩
  · have hj2 : j < n ∧ j < 23 := by unfold noteN at hj; split at hj <;> omega
    have hm : pgA q j < 24 := Nat.mod_lt _ (by decide)
    rw [pgA_s h2 (by omega)]
    have e : ∀ i, i < 51 → m2 107 (51 * (noteN n - 1 - (j + 1)) + i) = m 107 (51 * (n - 1 - j) + i) := fun i hi => by rw [e107]; exact note_old h1 hj hi
    obtain ⟨g1, g2, g3⟩ := h6 j hj2.1
    refine ⟨(g1.fr (ep _ (by omega) (by omega) (by have := pgA_ne h2 hj2.2; omega))).cg hV hP e, fun i hi => ((e i (by omega)).trans (g2 i hi)).trans (hS i hi).symm, g3.cg (fun i hi _ _ => e i hi)⟩
/-- the latest act is undone on both sides -/
theorem vA.pop {m m2 : jM} {V P n q : Nat} (h : vA m V P (n + 1) q) (hV : V ≤ 3) (hP : P ≤ 5) (ep : ∀ c, 66 ≤ c → c ≤ 89 → m2 c = m c) (e6 : m2 0 6 = nI n) (e7 : m2 0 7 = nI (pvA q)) (e18 : m2 98 18 = nI n) (e107 : m2 107 = m 107) (hS : SS (m 102) (m2 102)) : vA m2 V P n (pvA q) := by
  obtain ⟨h1, h2, h3, h4, h5, h6⟩ := h
  refine ⟨by omega, pvA_lt h2, e6, e7, e18, fun j hj => ?_⟩
  have hm : pgA q (j + 1) < 24 := Nat.mod_lt _ (by decide)
  obtain ⟨g1, g2, g3⟩ := h6 (j + 1) (by omega)
  rw [pgA_p h2 (by omega)]
  have e : ∀ i, i < 51 → m2 107 (51 * (n - 1 - j) + i) = m 107 (51 * (n + 1 - 1 - (j + 1)) + i) := fun i hi => by
    rw [e107]
    congr 1
    omega
  refine ⟨(g1.fr (ep _ (by omega) (by omega))).cg hV hP e, fun i hi => ((e i (by omega)).trans (g2 i hi)).trans (hS i hi).symm, g3.cg (fun i hi _ _ => e i hi)⟩
/-- no act can be undone -/
theorem vA.none {m2 : jM} {V P q : Nat} (hq : q < 24) (e6 : m2 0 6 = 0) (e7 : m2 0 7 = nI q) (e18 : m2 98 18 = 0) : vA m2 V P 0 q := ⟨by decide, hq, e6, e7, e18, fun j hj => absurd hj (Nat.not_lt_zero j)⟩
