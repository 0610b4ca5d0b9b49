/-! ===== call by call: rows, the tape ===== -/
/-- only a row has changed, and status() -/
theorem Inv.row1 {m m2 : jM} (hI : Inv m) {r : Nat} (hr : r < 8) (hw : RW m2 r) (ec : ∀ c, c ≠ 0 → c ≠ 98 → c ≠ 99 → c ≠ 100 → c ≠ 101 → c ≠ 103 → c ≠ 2 + 2 * r → c ≠ 2 + 2 * r + 1 → m2 c = m c) (e0 : m2 0 = upd (m 0) 17 0) (e98 : m2 98 = upd (m 98) 3 0) (e99 : ∀ j, j ≠ r → m2 99 j = m 99 j) (e100 : ∀ j, j ≠ r → m2 100 j = m 100 j) (e101 : ∀ j, j < 40 * r ∨ 40 * r + 40 ≤ j → m2 101 j = m 101 j) : Inv m2 := by
  obtain ⟨h1, h2, ⟨V, P, n, q, h3, h4⟩, h5, h6, h7, h8⟩ := hI
  have e : ∀ c, 18 ≤ c → c ≠ 98 → c ≠ 99 → c ≠ 100 → c ≠ 101 → c ≠ 103 → m2 c = m c := fun c a b d f g x => ec c (by omega) b d f g x (by omega) (by omega)
  have f0 : ∀ f, f ≠ 17 → m2 0 f = m 0 f := fun f a => by rw [e0, upd_n _ _ a]
  have f98 : ∀ f, f ≠ 3 → m2 98 f = m 98 f := fun f a => by rw [e98, upd_n _ _ a]
  refine ⟨h1.one hr hw (fun c a b d f => ec c (by omega) (by omega) (by omega) (by omega) (by omega) (by omega) d f) e99 e100 e101, ?_, ⟨V, P, n, q, ?_, ?_⟩, ?_, ?_, ?_, ?_⟩
  · exact h2.fr (e 19 (by decide) (by decide) (by decide) (by decide) (by decide) (by decide)) (e 104 (by decide) (by decide) (by decide) (by decide) (by decide) (by decide)) (by rw [e 18 (by decide) (by decide) (by decide) (by decide) (by decide) (by decide)]) (f98 8 (by decide))
  · exact h3.fr (fun c a b => e c (by omega) (by omega) (by omega) (by omega) (by omega) (by omega)) (f98 4 (by decide)) (e 102 (by decide) (by decide) (by decide) (by decide) (by decide) (by decide))
  · exact h4.fr (f0 6 (by decide)) (f0 7 (by decide)) (f98 18 (by decide)) (fun c a b => e c (by omega) (by omega) (by omega) (by omega) (by omega) (by omega)) (e 107 (by decide) (by decide) (by decide) (by decide) (by decide) (by decide)) (e 102 (by decide) (by decide) (by decide) (by decide) (by decide) (by decide))
  · exact h5.fr (fun c a b => e c (by omega) (by omega) (by omega) (by omega) (by omega) (by omega)) (e 110 (by decide) (by decide) (by decide) (by decide) (by decide) (by decide)) (e 111 (by decide) (by decide) (by decide) (by decide) (by decide) (by decide)) (f98 4 (by decide))
  · exact h6.fr (f0 15 (by decide)) (f98 25 (by decide)) (e 97 (by decide) (by decide) (by decide) (by decide) (by decide) (by decide)) (e 112 (by decide) (by decide) (by decide) (by decide) (by decide) (by decide))
  · rw [e0, e98, upd_s, upd_s]
  · rw [f0 16 (by decide), f98 9 (by decide)]; exact h8
theorem S_row (m : jM) (hI : Inv m) (x l n : Int32) : SIM mX3_row mX4_row [.int x, .int l, .int n] m := by
  by_cases hb : inN x 8 ∧ inN l 3 ∧ n ≤ 40
  · obtain ⟨h1, h2, h3⟩ := hb
    by_cases hz : n < 0
    · exact sim_find hI (s_Jrow_z m x l n h1 h2 hz) (s_Drow_z _ x l n h1 h2 hz)
    · obtain ⟨r, hr, rfl⟩ := inN_of (by decide) h1
      obtain ⟨k, hk0, rfl⟩ := nI_of hz
      have hk : k ≤ 40 := (j_le hk0 (by decide) (b := 40)).mp h3
      refine iX_mono (s_Jrow m r hr l h2 k hk) (fun v m1 h => ?_)
      obtain ⟨rfl, e1⟩ := h
      refine iX_mono (s_Drow m1 r hr l h2 k hk) (fun w m2 h => ⟨h.1, ?_⟩)
      have e2 := h.2
      have g : ∀ c, 98 < c → m1 c = m c := fun c hc => by
        rw [← e1, jst_n _ _ _ (by omega), jup_n _ _ (by omega), jst_n _ _ _ (by omega), jst_n _ _ _ (by omega), jst_n _ _ _ (by omega)]
      refine hI.row1 hr (Or.inr ⟨?_, k, hk, ?_, ?_, ?_, fun j hj => ?_⟩) (fun c a b d f g' x y z => ?_) ?_ ?_ (fun j hj => ?_) (fun j hj => ?_) (fun j hj => ?_)
      · rw [← e2, jst_n _ _ _ (by omega), jup_n _ _ (by omega), jst_n _ _ _ (by omega), jst_n _ _ _ (by omega), ← e1, jst_n _ _ _ (by omega), jup_n _ _ (by omega), jst_s, upd_n _ _ (by decide), jst_s, upd_n _ _ (by decide), jst_s, upd_s]
      · rw [← e2, jst_n _ _ _ (by omega), jup_n _ _ (by omega), jst_n _ _ _ (by omega), jst_n _ _ _ (by omega), ← e1, jst_n _ _ _ (by omega), jup_n _ _ (by omega), jst_s, upd_s]
      · rw [← e2, jst_n _ _ _ (by omega), jup_n _ _ (by omega), jst_s, upd_s]
      · rw [← e2, jst_n _ _ _ (by omega), jup_n _ _ (by omega), jst_n _ _ _ (by omega), jst_n _ _ _ (by omega), ← e1, jst_n _ _ _ (by omega), jup_n _ _ (by omega), jst_s, upd_n _ _ (by decide), jst_s, upd_s, jst_n _ _ _ (by omega), jup_n _ _ (by omega), jst_n _ _ _ (by omega), jst_s, upd_s]
      · have a1 : m2 (2 + 2 * r + 1) = va_cpy (fun _ => 0) (m (2 + 2 * r + 1)) 0 0 40 := by
          rw [← e2, jst_n _ _ _ (by omega), jup_n _ _ (by omega), jst_n _ _ _ (by omega), jst_n _ _ _ (by omega), ← e1, jst_n _ _ _ (by omega), jup_s]
        have a2 : m2 101 = va_cpy (fun _ => 0) (m1 101) 0 (40 * r) 40 := by rw [← e2, jst_n _ _ _ (by omega), jup_s]
        rw [a1, a2, cpy_in0 hj, cpy_at hj rfl]
      · rw [← e2, jst_n _ _ _ b, jup_n _ _ g', jst_n _ _ _ f, jst_n _ _ _ d, ← e1, jst_n _ _ _ a, jup_n _ _ z, jst_n _ _ _ y, jst_n _ _ _ y, jst_n _ _ _ y]
      · rw [← e2, jst_n _ _ _ (by omega), jup_n _ _ (by omega), jst_n _ _ _ (by omega), jst_n _ _ _ (by omega), ← e1, jst_s, jup_n _ _ (by omega), jst_n _ _ _ (by omega), jst_n _ _ _ (by omega), jst_n _ _ _ (by omega)]
      · rw [← e2, jst_s, jup_n _ _ (by omega), jst_n _ _ _ (by omega), jst_n _ _ _ (by omega), ← e1, jst_n _ _ _ (by omega), jup_n _ _ (by omega), jst_n _ _ _ (by omega), jst_n _ _ _ (by omega), jst_n _ _ _ (by omega)]
      · rw [← e2, jst_n _ _ _ (by omega), jup_n _ _ (by omega), jst_n _ _ _ (by omega), jst_s, upd_n _ _ hj, g 99 (by decide)]
      · rw [← e2, jst_n _ _ _ (by omega), jup_n _ _ (by omega), jst_s, upd_n _ _ hj, jst_n _ _ _ (by omega), g 100 (by decide)]
      · rw [← e2, jst_n _ _ _ (by omega), jup_s, cpy_out hj, g 101 (by decide)]
  · exact sim_bad hI (s_Jrow_b m x l n hb) (s_Drow_b m x l n hb)
theorem S_set (m : jM) (hI : Inv m) (x i v : Int32) : SIM mX3_set mX4_set [.int x, .int i, .int v] m := by
  by_cases hb : inN x 8
  · obtain ⟨r, hr, rfl⟩ := inN_of (by decide) hb
    have hw := hI.row hr
    rcases hw with ⟨h0, h1⟩ | ⟨h0, k, hk, h2, h1, h3, h4⟩
    · exact sim_find hI (s_Jset_n m r hr i v h0) (s_Dset_n _ r hr i v (by rw [jst_n _ _ _ (by decide)]; exact h1))
    · by_cases hi : inN i k
      · obtain ⟨i, hi', rfl⟩ := inN_of (by omega) hi
        refine iX_mono (s_Jset m r hr i v h0 k hk h2 hi') (fun y m1 h => ?_)
        obtain ⟨rfl, e1⟩ := h
        have g : ∀ c, 98 < c → m1 c = m c := fun c hc => by rw [← e1, jst_n _ _ _ (by omega), jst_n _ _ _ (by omega)]
        refine iX_mono (s_Dset m1 r hr i v k hk (by rw [g 100 (by decide)]; exact h1) hi') (fun w m2 h => ?_)
        obtain ⟨e3, e2⟩ := h
        rw [g 99 (by decide), ← h3] at e3 e2
        refine ⟨e3, hI.row1 hr (Or.inr ⟨?_, k, hk, ?_, ?_, ?_, fun j hj => ?_⟩) (fun c a b d f g' x y z => ?_) ?_ ?_ (fun j hj => ?_) (fun j hj => ?_) (fun j hj => ?_)⟩
        · rw [← e2, jst_n _ _ _ (by omega), jst_n _ _ _ (by omega), ← e1, jst_n _ _ _ (by omega), jst_n _ _ _ (by omega)]; exact h0
        · rw [← e2, jst_n _ _ _ (by omega), jst_n _ _ _ (by omega), ← e1, jst_n _ _ _ (by omega), jst_n _ _ _ (by omega)]; exact h2
        · rw [← e2, jst_n _ _ _ (by omega), jst_n _ _ _ (by omega), g 100 (by decide)]; exact h1
        · rw [← e2, jst_n _ _ _ (by omega), jst_n _ _ _ (by omega), jst_n _ _ _ (by omega), jst_n _ _ _ (by omega), g 99 (by decide), ← e1, jst_n _ _ _ (by omega), jst_n _ _ _ (by omega)]; exact h3
        · rw [← e2, jst_n _ _ _ (by omega), jst_n _ _ _ (by omega), jst_n _ _ _ (by omega), jst_s, g 101 (by decide), ← e1, jst_n _ _ _ (by omega), jst_s]
          by_cases e : j = i
          · rw [e, upd_s, upd_s]
          · rw [upd_n _ _ e, upd_n _ _ (by omega)]; exact h4 j hj
        · rw [← e2, jst_n _ _ _ b, jst_n _ _ _ g', ← e1, jst_n _ _ _ a, jst_n _ _ _ z]
        · rw [← e2, jst_n _ _ _ (by omega), jst_n _ _ _ (by omega), ← e1, jst_s, jst_n _ _ _ (by omega)]
        · rw [← e2, jst_s, jst_n _ _ _ (by omega), ← e1, jst_n _ _ _ (by omega), jst_n _ _ _ (by omega)]
        · rw [← e2, jst_n _ _ _ (by omega), jst_n _ _ _ (by omega), g 99 (by decide)]
        · rw [← e2, jst_n _ _ _ (by omega), jst_n _ _ _ (by omega), g 100 (by decide)]
        · rw [← e2, jst_n _ _ _ (by omega), jst_s, upd_n _ _ (by omega), g 101 (by decide)]
      · exact sim_find hI (s_Jset_p m r hr i v h0 k hk h2 hi) (s_Dset_p _ r hr i v k hk (by rw [jst_n _ _ _ (by decide)]; exact h1) hi)
  · exact sim_bad hI (s_Jset_b m x i v hb) (s_Dset_b m x i v hb)
theorem reach_n {k : Nat} {i n : Int32} (hk : k ≤ 40) (h : reachP k i n) : ∃ i' n' : Nat, i = nI i' ∧ n = nI n' ∧ i' + n' ≤ k := by
  obtain ⟨h1, h2, h3⟩ := h
  obtain ⟨i', hi', rfl⟩ := nI_of (Int32.not_lt.mpr h2)
  obtain ⟨n', hn', rfl⟩ := nI_of (Int32.not_lt.mpr h1)
  rw [nI_toInt hi', nI_toInt hn'] at h3
  exact ⟨i', n', rfl, rfl, by omega⟩
theorem S_copy (m : jM) (hI : Inv m) (x i y j n : Int32) : SIM mX3_copy mX4_copy [.int x, .int i, .int y, .int j, .int n] m := by
  by_cases hb : inN x 8 ∧ inN y 8
  · obtain ⟨hx, hy⟩ := hb
    obtain ⟨a, ha, rfl⟩ := inN_of (by decide) hx
    obtain ⟨b, hb, rfl⟩ := inN_of (by decide) hy
    have t01 : ∀ r, r < 8 → m (2 + 2 * r) 0 = 0 ∨ m (2 + 2 * r) 0 = 1 := fun r hr => (hI.row hr).elim (fun z => Or.inl z.1) (fun z => Or.inr z.1)
    by_cases hn : m (2 + 2 * a) 0 = 0 ∨ m (2 + 2 * b) 0 = 0
    · refine sim_find hI (s_Jcopy_n m a b ha hb i j n (t01 a ha) (t01 b hb) hn) (s_Dcopy_n _ a b ha hb i j n ?_)
      rw [jst_n _ _ _ (by decide)]
      have neg : ∀ r, r < 8 → m (2 + 2 * r) 0 = 0 → m 100 r < 0 := fun r hr h0 => by
        rcases hI.row hr with ⟨-, h⟩ | ⟨h, -⟩
        · rw [h]; decide
        · rw [h0] at h; exact absurd h (by decide)
      exact hn.imp (neg a ha) (neg b hb)
    · have ta : m (2 + 2 * a) 0 = 1 := (t01 a ha).elim (fun z => absurd (Or.inl z) hn) id
      have tb : m (2 + 2 * b) 0 = 1 := (t01 b hb).elim (fun z => absurd (Or.inr z) hn) id
      rcases hI.row ha with ⟨z, -⟩ | ⟨-, k, hk, a2, a3, a4, a5⟩
      · rw [ta] at z; exact absurd z (by decide)
      rcases hI.row hb with ⟨z, -⟩ | ⟨-, k2, hk2, b2, b3, b4, b5⟩
      · rw [tb] at z; exact absurd z (by decide)
      by_cases hl : m (2 + 2 * a) 1 = m (2 + 2 * b) 1
      · have hl2 : m 99 a = m 99 b := by rw [← a4, ← b4]; exact hl
        by_cases hp : reachP k i n ∧ reachP k2 j n
        · obtain ⟨i, n, rfl, rfl, hi⟩ := reach_n hk hp.1
          obtain ⟨j, n', rfl, en, hj⟩ := reach_n hk2 hp.2
          have hn' : n = n' := (j_eq (by omega) (by omega)).mp en
          subst hn'
          refine iX_mono (s_Jcopy m a b ha hb i j n ta tb k k2 hk hk2 a2 b2 hl hi hj) (fun v m1 h => ?_)
          obtain ⟨rfl, e1⟩ := h
          have g : ∀ c, 98 < c → m1 c = m c := fun c hc => by rw [← e1, jst_n _ _ _ (by omega), jup_n _ _ (by omega)]
          refine iX_mono (s_Dcopy m1 a b ha hb i j n k k2 hk hk2 (by rw [g 100 (by decide)]; exact a3) (by rw [g 100 (by decide)]; exact b3) (by rw [g 99 (by decide)]; exact hl2) hi hj) (fun w m2 h => ?_)
          obtain ⟨e3, e2⟩ := h
          rw [g 101 (by decide), g 103 (by decide)] at e2
          refine ⟨e3, hI.row1 hb (Or.inr ⟨?_, k2, hk2, ?_, ?_, ?_, fun u hu => ?_⟩) (fun c a b d f g' x y z => ?_) ?_ ?_ (fun j hj => ?_) (fun j hj => ?_) (fun u hu => ?_)⟩
          · rw [← e2, jst_n _ _ _ (by omega), jup_n _ _ (by omega), jup_n _ _ (by omega), ← e1, jst_n _ _ _ (by omega), jup_n _ _ (by omega)]; exact tb
          · rw [← e2, jst_n _ _ _ (by omega), jup_n _ _ (by omega), jup_n _ _ (by omega), ← e1, jst_n _ _ _ (by omega), jup_n _ _ (by omega)]; exact b2
          · rw [← e2, jst_n _ _ _ (by omega), jup_n _ _ (by omega), jup_n _ _ (by omega), g 100 (by decide)]; exact b3
          · rw [← e2, jst_n _ _ _ (by omega), jup_n _ _ (by omega), jup_n _ _ (by omega), jst_n _ _ _ (by omega), jup_n _ _ (by omega), jup_n _ _ (by omega), g 99 (by decide), ← e1, jst_n _ _ _ (by omega), jup_n _ _ (by omega)]; exact b4
          · have x1 : m2 (2 + 2 * b + 1) = va_cpy (m (2 + 2 * a + 1)) (m (2 + 2 * b + 1)) i j n := by
              rw [← e2, jst_n _ _ _ (by omega), jup_n _ _ (by omega), jup_n _ _ (by omega), ← e1, jst_n _ _ _ (by omega), jup_s]
            have x2 : m2 101 = va_cpy (va_cpy (m 101) (m 103) (40 * a + i) 0 n) (m 101) 0 (40 * b + j) n := by
              rw [← e2, jst_n _ _ _ (by omega), jup_s]
            rw [x1, x2]
            by_cases c : j ≤ u ∧ u < j + n
            · have y1 := cpy_at (f := m (2 + 2 * a + 1)) (g := m (2 + 2 * b + 1)) (sp := i) (dp := j) (n := n) (j := u - j) (i := u) (by omega) (by omega)
              have y2 := cpy_at (f := va_cpy (m 101) (m 103) (40 * a + i) 0 n) (g := m 101) (sp := 0) (dp := 40 * b + j) (n := n) (j := u - j) (i := 40 * b + u) (by omega) (by omega)
              have y3 := cpy_at (f := m 101) (g := m 103) (sp := 40 * a + i) (dp := 0) (n := n) (j := u - j) (i := 0 + (u - j)) (by omega) rfl
              rw [y1, y2, y3, a5 _ (by omega), Nat.add_assoc]
            · rw [cpy_out (by omega), cpy_out (by omega)]
              exact b5 u hu
          · rw [← e2, jst_n _ _ _ b, jup_n _ _ g', jup_n _ _ x, ← e1, jst_n _ _ _ a, jup_n _ _ z]
          · rw [← e2, jst_n _ _ _ (by omega), jup_n _ _ (by omega), jup_n _ _ (by omega), ← e1, jst_s, jup_n _ _ (by omega)]
          · rw [← e2, jst_s, jup_n _ _ (by omega), jup_n _ _ (by omega), ← e1, jst_n _ _ _ (by omega), jup_n _ _ (by omega)]
          · rw [← e2, jst_n _ _ _ (by omega), jup_n _ _ (by omega), jup_n _ _ (by omega), g 99 (by decide)]
          · rw [← e2, jst_n _ _ _ (by omega), jup_n _ _ (by omega), jup_n _ _ (by omega), g 100 (by decide)]
          · rw [← e2, jst_n _ _ _ (by omega), jup_s, cpy_out (by omega)]
        · exact sim_find hI (s_Jcopy_p m a b ha hb i j n ta tb k k2 hk hk2 a2 b2 hl hp) (s_Dcopy_p _ a b ha hb i j n k k2 hk hk2 (by rw [jst_n _ _ _ (by decide)]; exact a3) (by rw [jst_n _ _ _ (by decide)]; exact b3) (by rw [jst_n _ _ _ (by decide)]; exact hl2) hp)
      · exact sim_find hI (s_Jcopy_s m a b ha hb i j n ta tb hl) (s_Dcopy_s _ a b ha hb i j n k k2 hk hk2 (by rw [jst_n _ _ _ (by decide)]; exact a3) (by rw [jst_n _ _ _ (by decide)]; exact b3) (by rw [jst_n _ _ _ (by decide), ← a4, ← b4]; exact hl))
  · exact sim_bad hI (s_Jcopy_b m x i y j n hb) (s_Dcopy_b m x i y j n hb)
theorem S_drop (m : jM) (hI : Inv m) (x : Int32) : SIM mX3_drop mX4_drop [.int x] m := by
  by_cases hb : inN x 8
  · obtain ⟨r, hr, rfl⟩ := inN_of (by decide) hb
    rcases hI.row hr with ⟨h0, h1⟩ | ⟨h0, k, hk, h2, h1, h3, h4⟩
    · exact sim_find hI (s_Jdrop_n m r hr h0) (s_Ddrop_n _ r hr (by rw [jst_n _ _ _ (by decide)]; exact h1))
    · refine iX_mono (s_Jdrop m r hr h0 k h2) (fun v m1 h => ?_)
      obtain ⟨rfl, e1⟩ := h
      have g : ∀ c, 98 < c → m1 c = m c := fun c hc => by rw [← e1, jst_n _ _ _ (by omega), jst_n _ _ _ (by omega)]
      refine iX_mono (s_Ddrop m1 r hr k hk (by rw [g 100 (by decide)]; exact h1)) (fun w m2 h => ?_)
      obtain ⟨e3, e2⟩ := h
      refine ⟨e3, hI.row1 hr (Or.inl ⟨?_, ?_⟩) (fun c a b d f g' x y z => ?_) ?_ ?_ (fun j hj => ?_) (fun j hj => ?_) (fun j hj => ?_)⟩
      · rw [← e2, jst_n _ _ _ (by omega), jst_n _ _ _ (by omega), ← e1, jst_n _ _ _ (by omega), jst_s, upd_s]
      · rw [← e2, jst_n _ _ _ (by omega), jst_s, upd_s]
      · rw [← e2, jst_n _ _ _ b, jst_n _ _ _ f, ← e1, jst_n _ _ _ a, jst_n _ _ _ y]
      · rw [← e2, jst_n _ _ _ (by omega), jst_n _ _ _ (by omega), ← e1, jst_s, jst_n _ _ _ (by omega)]
      · rw [← e2, jst_s, jst_n _ _ _ (by omega), ← e1, jst_n _ _ _ (by omega), jst_n _ _ _ (by omega)]
      · rw [← e2, jst_n _ _ _ (by omega), jst_n _ _ _ (by omega), g 99 (by decide)]
      · rw [← e2, jst_n _ _ _ (by omega), jst_s, upd_n _ _ hj, g 100 (by decide)]
      · rw [← e2, jst_n _ _ _ (by omega), jst_n _ _ _ (by omega), g 101 (by decide)]
  · exact sim_bad hI (s_Jdrop_b m x hb) (s_Ddrop_b m x hb)
theorem S_feed (m : jM) (hI : Inv m) (x : Int32) : SIM mX3_feed mX4_feed [.int x] m := by
  by_cases hb : inN x 256
  · obtain ⟨h1, h2, ⟨V, P, n, q, h3, h4⟩, h5, h6, h7, h8⟩ := id hI
    obtain ⟨e19, len, hl, es, ed⟩ := h2
    by_cases hf : len = 120
    · subst hf
      exact sim_bad hI (s_Jfeed_f m x hb es) (s_Dfeed_f m x hb ed)
    · refine iX_mono (s_Jfeed m x hb len (by omega) es) (fun v m1 h => ?_)
      obtain ⟨rfl, e1⟩ := h
      have g : ∀ c, c ≠ 18 → c ≠ 19 → m1 c = m c := fun c a b => by rw [← e1, jst_n _ _ _ a, jst_n _ _ _ b]
      refine iX_mono (s_Dfeed m1 x hb len (by omega) (by rw [g 98 (by decide) (by decide)]; exact ed)) (fun w m2 h => ?_)
      obtain ⟨e3, e2⟩ := h
      have e : ∀ c, c ≠ 18 → c ≠ 19 → c ≠ 98 → c ≠ 104 → m2 c = m c := fun c a b d f => by rw [← e2, jst_n _ _ _ d, jst_n _ _ _ f, g c a b]
      have f98 : ∀ f, f ≠ 8 → m2 98 f = m 98 f := fun f a => by rw [← e2, jst_s, upd_n _ _ a, jst_n _ _ _ (by decide), g 98 (by decide) (by decide)]
      have e0 : m2 0 = m 0 := e 0 (by decide) (by decide) (by decide) (by decide)
      refine ⟨e3, h1.fr (fun c a b => e c (by omega) (by omega) (by omega) (by omega)) (e 99 (by decide) (by decide) (by decide) (by decide)) (e 100 (by decide) (by decide) (by decide) (by decide)) (e 101 (by decide) (by decide) (by decide) (by decide)), ⟨?_, len + 1, by omega, ?_, ?_⟩, ⟨V, P, n, q, ?_, ?_⟩, ?_, ?_, ?_, ?_⟩
      · rw [← e2, jst_n _ _ _ (by decide), jst_n _ _ _ (by decide), jst_n _ _ _ (by decide), jst_s, g 104 (by decide) (by decide), ← e1, jst_n _ _ _ (by decide), jst_s, e19]
      · rw [← e2, jst_n _ _ _ (by decide), jst_n _ _ _ (by decide), ← e1, jst_s, upd_s]
      · rw [← e2, jst_s, upd_s]
      · exact h3.fr (fun c a b => e c (by omega) (by omega) (by omega) (by omega)) (f98 4 (by decide)) (e 102 (by decide) (by decide) (by decide) (by decide))
      · exact h4.fr (by rw [e0]) (by rw [e0]) (f98 18 (by decide)) (fun c a b => e c (by omega) (by omega) (by omega) (by omega)) (e 107 (by decide) (by decide) (by decide) (by decide)) (e 102 (by decide) (by decide) (by decide) (by decide))
      · exact h5.fr (fun c a b => e c (by omega) (by omega) (by omega) (by omega)) (e 110 (by decide) (by decide) (by decide) (by decide)) (e 111 (by decide) (by decide) (by decide) (by decide)) (f98 4 (by decide))
      · exact h6.fr (by rw [e0]) (f98 25 (by decide)) (e 97 (by decide) (by decide) (by decide) (by decide)) (e 112 (by decide) (by decide) (by decide) (by decide))
      · rw [e0, f98 3 (by decide)]; exact h7
      · rw [e0, f98 9 (by decide)]; exact h8
  · exact sim_bad hI (s_Jfeed_b m x hb) (s_Dfeed_b m x hb)
theorem S_fault (m : jM) (hI : Inv m) : SIM mX3_fault mX4_fault [] m := by
  refine sim_bad hI (s_Jfault m) ?_
  rw [hI.2.2.2.2.2.2]
  exact s_Dfault m
theorem S_status (m : jM) (hI : Inv m) : SIM mX3_status mX4_status [] m := by
  refine sim_bad hI (s_Jstatus m) ?_
  rw [hI.2.2.2.2.2.1]
  exact s_Dstatus m
