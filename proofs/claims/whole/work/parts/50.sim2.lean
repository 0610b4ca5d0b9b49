/-! ===== call by call: kitchens, acts, asks ===== -/
/-- who are there, whether all is told -/
theorem vK.t {m : jM} {V P : Nat} (h : vK m V P) (hp : 0 < V ∨ 0 < P) : m 20 0 = 1 ∧ m 98 4 = 1 ∧ WK (m 102) V P := by
  rcases h.2.2.2.2.2 with ⟨-, -, h1, h2⟩ | h1
  · omega
  · exact h1
theorem S_pan (m : jM) (hI : Inv m) (x w : Int32) : SIM mX3_pan mX4_pan [.int x, .int w] m := by
  obtain ⟨-, -, ⟨V, P, n, q, hK, -⟩, -⟩ := id hI
  obtain ⟨hV, hP, hR, e1, e2, ht⟩ := id hK
  by_cases hb : inN x P
  · obtain ⟨p, hp, rfl⟩ := inN_of (by omega) hb
    obtain ⟨-, -, hW⟩ := hK.t (Or.inr (by omega))
    exact sim_bad hI (s_Jpan m (m 102) V P hV hP hR hW p w hp) (s_Dpan m p w P hP e2 hp)
  · exact sim_bad hI (s_Jpan_b m (m 102) V P hV hP hR x w hb) (s_Dpan_b m x w P hP e2 hb)
theorem S_singer (m : jM) (hI : Inv m) (x w : Int32) : SIM mX3_singer mX4_singer [.int x, .int w] m := by
  obtain ⟨-, -, ⟨V, P, n, q, hK, -⟩, -⟩ := id hI
  obtain ⟨hV, hP, hR, e1, e2, ht⟩ := id hK
  by_cases hb : inN x V
  · obtain ⟨p, hp, rfl⟩ := inN_of (by omega) hb
    exact sim_bad hI (s_Jsinger m (m 102) V P hV hP hR p w hp) (s_Dsinger m p w V hV e1 hp)
  · exact sim_bad hI (s_Jsinger_b m (m 102) V P hV hP hR x w hb) (s_Dsinger_b m x w V hV e1 hb)
theorem S_kind (m : jM) (hI : Inv m) (x : Int32) : SIM mX3_kind mX4_kind [.int x] m := by
  obtain ⟨-, -, ⟨V, P, n, q, hK, -⟩, -⟩ := id hI
  obtain ⟨hV, hP, hR, e1, e2, ht⟩ := id hK
  by_cases hb : inN x P
  · obtain ⟨p, hp, rfl⟩ := inN_of (by omega) hb
    exact sim_bad hI (s_Jkind m (m 102) V P hV hP hR p hp) (s_Dkind m p P hP e2 hp)
  · exact sim_bad hI (s_Jkind_b m (m 102) V P hV hP hR x hb) (s_Dkind_b m x P hP e2 hb)
theorem S_as (m : jM) (hI : Inv m) (x a : Int32) : SIM mX3_as mX4_as [.int x, .int a] m := by
  obtain ⟨-, -, ⟨V, P, n, q, hK, -⟩, -⟩ := id hI
  obtain ⟨hV, hP, hR, e1, e2, ht⟩ := id hK
  by_cases hb : inN x P ∧ inN a 6
  · obtain ⟨p, hp, rfl⟩ := inN_of (by omega) hb.1
    obtain ⟨k, hk, rfl⟩ := inN_of (by decide) hb.2
    obtain ⟨-, -, hW⟩ := hK.t (Or.inr (by omega))
    refine iX_mono (s_Jas m (m 102) V P hV hP hR hW p hp k hk) (fun v m1 h => ?_)
    rcases h with ⟨h1, rfl, e⟩ | ⟨h1, rfl, e⟩
    · refine iX_mono (s_Das m1 p (nI k) P hP (by rw [← e, jst_n _ _ _ (by decide)]; exact e2) hp (inN_nI (by decide) hk)) (fun w m2 h => ?_)
      rw [show m1 102 = m 102 by rw [← e, jst_n _ _ _ (by decide)]] at h
      rcases h with ⟨-, rfl, e'⟩ | ⟨h2, -⟩
      · exact ⟨rfl, by rw [← e', ← e]; exact hI.ask (SQ.s m 0) (DQ.s _ 0) (by rw [jst3, jup_s, upd_s])⟩
      · exact absurd h1 h2
    · refine iX_mono (s_Das m1 p (nI k) P hP (by rw [← e, jst_n _ _ _ (by decide)]; exact e2) hp (inN_nI (by decide) hk)) (fun w m2 h => ?_)
      rw [show m1 102 = m 102 by rw [← e, jst_n _ _ _ (by decide)]] at h
      rcases h with ⟨h2, -⟩ | ⟨-, rfl, e'⟩
      · exact absurd h2 h1
      · exact ⟨rfl, by rw [← e', ← e]; exact hI.ask (SQ.s m 3) (DQ.s _ 3) (by rw [jst3, jup_s, upd_s])⟩
  · exact sim_bad hI (s_Jas_b m (m 102) V P hV hP hR x a hb) (s_Das_b m x a P hP e2 hb)
theorem S_count (m : jM) (hI : Inv m) (w : Int32) : SIM mX3_count mX4_count [.int w] m := by
  obtain ⟨h1, ⟨-, len, -, es, ed⟩, ⟨V, P, n, q, hK, hA⟩, -⟩ := id hI
  obtain ⟨hV, hP, hR, e1, e2, ht⟩ := id hK
  refine sim_bad hI (s_Jcount m V P hP hR ?_ e1 e2 (by rw [hA.2.2.1, hA.2.2.2.2.1]) (by rw [es, ed]) h1 w) (s_Dcount m P hP e2 w)
  intro p hp
  exact (hK.t (Or.inr (by omega))).2.2.dn p hp
theorem S_trace (m : jM) (hI : Inv m) (x : Int32) : SIM mX3_trace mX4_trace [.int x] m := by
  obtain ⟨-, -, -, -, ⟨k, hk, e15, e25, ej⟩, -⟩ := id hI
  by_cases hb : inN x k
  · obtain ⟨j, hj, rfl⟩ := inN_of (by omega) hb
    refine sim_bad hI (s_Jtrace m j k hk e15 hj) (iX_mono (s_Dtrace m (nI j) k hk e25) (fun v m1 h => ⟨?_, h.1⟩))
    rcases h.2 with ⟨i, hi, e, rfl⟩ | ⟨h2, -⟩
    · have : j = i := (j_eq (by omega) (by omega)).mp e
      subst this
      exact (ej j hj).symm
    · exact absurd hb h2
  · refine sim_bad hI (s_Jtrace_b m x k e15 hb) (iX_mono (s_Dtrace m x k hk e25) (fun v m1 h => ⟨?_, h.1⟩))
    rcases h.2 with ⟨i, hi, rfl, -⟩ | ⟨-, h2⟩
    · exact absurd (inN_nI (by omega) hi) hb
    · exact h2
/-! asks: the same bodies are left on both sides -/
theorem bgC_o {c : Nat} (h : c ≠ 0) (h2 : c ≠ 97) : ∀ (l : List Int32) (m : jM), bgC m l c = m c
  | [], _ => rfl
  | x :: l, m => (bgC_o h h2 l (begC m x)).trans (begC_o h h2)
theorem bgs_o {c : Nat} (h : c ≠ 98) (h2 : c ≠ 112) : ∀ (l : List Int32) (m : jM), bgs m l c = m c
  | [], _ => rfl
  | x :: l, m => (bgs_o h h2 l (begM m x)).trans (begM_o h h2)
theorem begC_f {m : jM} {x : Int32} {f : Nat} (h : f ≠ 15) : begC m x 0 f = m 0 f := by
  unfold begC
  split
  · rw [jst_s, upd_n _ _ h, jst_n _ _ _ (by decide)]
  · rfl
theorem begM_f {m : jM} {x : Int32} {f : Nat} (h : f ≠ 25) : begM m x 98 f = m 98 f := by
  unfold begM
  split
  · rw [jst_s, upd_n _ _ h, jst_n _ _ _ (by decide)]
  · rfl
theorem bgC_f {f : Nat} (h : f ≠ 15) : ∀ (l : List Int32) (m : jM), bgC m l 0 f = m 0 f
  | [], _ => rfl
  | x :: l, m => (bgC_f h l (begC m x)).trans (begC_f h)
theorem bgs_f {f : Nat} (h : f ≠ 25) : ∀ (l : List Int32) (m : jM), bgs m l 98 f = m 98 f
  | [], _ => rfl
  | x :: l, m => (bgs_f h l (begM m x)).trans (begM_f h)
/-- the traces of two memories -/
def TRQ (m m1 : jM) : Prop := ∃ k : Nat, k ≤ 16 ∧ m 0 15 = nI k ∧ m1 98 25 = nI k ∧ ∀ j, j < k → m 97 j = m1 112 j
theorem TRQ.b {m m1 : jM} (x : Int32) (h : TRQ m m1) : TRQ (begC m x) (begM m1 x) := by
  obtain ⟨k, hk, e1, e2, e3⟩ := h
  unfold begC begM
  rw [e1, e2]
  by_cases c : nI k < 16
  · rw [if_pos c, if_pos c]
    have h16 : k < 16 := (j_lt (a := k) (b := 16) (by omega) (by decide)).mp c
    refine ⟨k + 1, by omega, ?_, ?_, fun j hj => ?_⟩
    · rw [jst_s, upd_s]; exact nI_1 k
    · rw [jst_s, upd_s]; exact nI_1 k
    · rw [jst_n _ _ _ (by decide), jst_s, jst_n _ _ _ (by decide), jst_s, nI_clamp (by omega)]
      by_cases e : j = k
      · rw [e, upd_s, upd_s]
      · rw [upd_n _ _ e, upd_n _ _ e]; exact e3 j (by omega)
  · rw [if_neg c, if_neg c]
    exact ⟨k, hk, e1, e2, e3⟩
theorem TRQ.l : ∀ (l : List Int32) (m m1 : jM), TRQ m m1 → TRQ (bgC m l) (bgs m1 l)
  | [], _, _, h => h
  | x :: l, m, m1, h => TRQ.l l _ _ (h.b x)
theorem sim_asked {m m1 m2 : jM} {l : List Int32} (hI : Inv m) (e1 : bgC (jst m 0 15 0) l = m1) (e2 : bgs (jst m1 98 25 0) l = m2) : Inv m2 := by
  obtain ⟨h1, h2, ⟨V, P, n, q, h3, h4⟩, h5, h6, h7, h8⟩ := hI
  have g : ∀ c, c ≠ 0 → c ≠ 97 → m1 c = m c := fun c a b => by rw [← e1, bgC_o a b, jst_n _ _ _ a]
  have e : ∀ c, c ≠ 0 → c ≠ 97 → c ≠ 98 → c ≠ 112 → m2 c = m c := fun c a b d f => by rw [← e2, bgs_o d f, jst_n _ _ _ d, g c a b]
  have f0 : ∀ f, f ≠ 15 → m2 0 f = m 0 f := fun f a => by rw [← e2, bgs_o (by decide) (by decide), jst_n _ _ _ (by decide), ← e1, bgC_f a, jst_s, upd_n _ _ a]
  have f98 : ∀ f, f ≠ 25 → m2 98 f = m 98 f := fun f a => by rw [← e2, bgs_f a, jst_s, upd_n _ _ a, g 98 (by decide) (by decide)]
  refine ⟨h1.fr (fun c a b => e c (by omega) (by omega) (by omega) (by omega)) (e 99 (by decide) (by decide) (by decide) (by decide)) (e 100 (by decide) (by decide) (by decide) (by decide)) (e 101 (by decide) (by decide) (by decide) (by decide)), ?_, ⟨V, P, n, q, ?_, ?_⟩, ?_, ?_, ?_, ?_⟩
  · exact h2.fr (e 19 (by decide) (by decide) (by decide) (by decide)) (e 104 (by decide) (by decide) (by decide) (by decide)) (by rw [e 18 (by decide) (by decide) (by decide) (by decide)]) (f98 8 (by decide))
  · exact h3.fr (fun c a b => e c (by omega) (by omega) (by omega) (by omega)) (f98 4 (by decide)) (e 102 (by decide) (by decide) (by decide) (by decide))
  · exact h4.fr (f0 6 (by decide)) (f0 7 (by decide)) (f98 18 (by decide)) (fun c a b => e c (by omega) (by omega) (by omega) (by omega)) (e 107 (by decide) (by decide) (by decide) (by decide)) (e 102 (by decide) (by decide) (by decide) (by decide))
  · exact h5.fr (fun c a b => e c (by omega) (by omega) (by omega) (by omega)) (e 110 (by decide) (by decide) (by decide) (by decide)) (e 111 (by decide) (by decide) (by decide) (by decide)) (f98 4 (by decide))
  · have ht : TRQ (jst m 0 15 0) (jst m1 98 25 0) := ⟨0, by decide, by rw [jst_s, upd_s]; rfl, by rw [jst_s, upd_s]; rfl, fun j hj => absurd hj (Nat.not_lt_zero j)⟩
    obtain ⟨k, hk, a1, a2, a3⟩ := TRQ.l l _ _ ht
    rw [e1] at a1 a3
    rw [e2] at a2 a3
    have x0 : m2 0 = m1 0 := by rw [← e2, bgs_o (by decide) (by decide), jst_n _ _ _ (by decide)]
    have x97 : m2 97 = m1 97 := by rw [← e2, bgs_o (by decide) (by decide), jst_n _ _ _ (by decide)]
    exact ⟨k, hk, by rw [x0]; exact a1, a2, fun j hj => by rw [x97]; exact a3 j hj⟩
  · rw [f0 17 (by decide), f98 3 (by decide)]; exact h7
  · rw [f0 16 (by decide), f98 9 (by decide)]; exact h8
theorem S_ask (m : jM) (hI : Inv m) (x w : Int32) : SIM mX3_ask mX4_ask [.int x, .int w] m := by
  obtain ⟨-, -, ⟨V, P, n, q, hK, -⟩, -⟩ := id hI
  obtain ⟨hV, hP, hR, e1, e2, ht⟩ := id hK
  by_cases hb : inN x P ∧ inN w 2
  · obtain ⟨p, hp, rfl⟩ := inN_of (by omega) hb.1
    obtain ⟨-, -, hW⟩ := hK.t (Or.inr (by omega))
    refine iX_mono (s_Jask m (m 102) V P hV hP hR hW p hp w hb.2) (fun v m1 h => ?_)
    obtain ⟨ev, em⟩ := h
    have g102 : m1 102 = m 102 := by rw [← em, bgC_o (by decide) (by decide), jst_n _ _ _ (by decide)]
    obtain ⟨k, hk, rfl⟩ := inN_of (by decide) hb.2
    have : k = 0 ∨ k = 1 := by omega
    rcases this with rfl | rfl
    · rw [if_pos (show nI 0 = 0 from rfl)] at ev em
      refine iX_mono (s_Dask0 m1 p P hP (by rw [g102]; exact e2) hp) (fun w m2 h => ?_)
      rw [g102] at h
      exact ⟨h.1.trans ev.symm, sim_asked hI em h.2⟩
    · rw [if_neg (show ¬ nI 1 = 0 by decide)] at ev em
      refine iX_mono (s_Dask1 m1 p P hP (by rw [g102]; exact e2) hp) (fun w m2 h => ?_)
      rw [g102] at h
      exact ⟨h.1.trans ev.symm, sim_asked hI em h.2⟩
  · exact sim_bad hI (s_Jask_b m (m 102) V P hV hP hR x w hb) (s_Dask_b m x w P hP e2 hb)
theorem hr_xor {x : Int32} (hx : 0 ≤ x ∧ x ≤ 7) {s : Nat} (hs : s < 3) : 0 ≤ x ^^^ ((1 : Int32) <<< (nI s &&& 31)) ∧ x ^^^ ((1 : Int32) <<< (nI s &&& 31)) ≤ 7 := by
  obtain ⟨a, ha, rfl⟩ := j_ran (n := 7) (by decide) hx
  exact co2 (P := fun a k => 0 ≤ nI a ^^^ ((1 : Int32) <<< (nI k &&& 31)) ∧ nI a ^^^ ((1 : Int32) <<< (nI k &&& 31)) ≤ 7) (a := 8) (b := 3) (by decide) (fun q hq => co_dec (P := fun q => 0 ≤ nI (q / 3) ^^^ ((1 : Int32) <<< (nI (q % 3) &&& 31)) ∧ nI (q / 3) ^^^ ((1 : Int32) <<< (nI (q % 3) &&& 31)) ≤ 7) (by decide +kernel) hq) ha hs
theorem S_window (m : jM) (hI : Inv m) (x y z : Int32) : SIM mX3_window mX4_window [.int x, .int y, .int z] m := by
  obtain ⟨h1, h2, ⟨V, P, n, q, hK, hA⟩, h5, h6, h7, h8⟩ := id hI
  obtain ⟨hV, hP, hR, e1, e2, ht⟩ := id hK
  by_cases hb : inN x P ∧ inN y V ∧ inN z 2
  · obtain ⟨p, hp, rfl⟩ := inN_of (by omega) hb.1
    obtain ⟨s, hs, rfl⟩ := inN_of (by omega) hb.2.1
    obtain ⟨t1, t2, hW⟩ := hK.t (Or.inr (by omega))
    refine iX_mono (s_Jwin m (m 102) V P hW hR p hp s hs z hb.2.2 n q hA.1 hA.2.1 hA.2.2.1 hA.2.2.2.1) (fun v m1 h => ?_)
    rcases h with ⟨c1, rfl, rfl⟩ | ⟨c1, rfl, hg, hr, hf, hf0⟩
    · refine iX_mono (s_Dwin m V hV e1 P hP e2 p hp s hs z hb.2.2 n hA.1 hA.2.2.2.2.1) (fun w m2 h => ?_)
      rcases h with ⟨-, rfl, rfl⟩ | ⟨c2, -⟩
      · exact ⟨rfl, hI⟩
      · exact absurd c1 c2
    · have g : ∀ c, 89 < c → m1 c = m c := fun c a => hf c (by omega) (by have := hA.2.1; omega) (by omega)
      refine iX_mono (s_Dwin m1 V hV (by rw [g 102 (by decide)]; exact e1) P hP (by rw [g 102 (by decide)]; exact e2) p hp s hs z hb.2.2 n hA.1 (by rw [g 98 (by decide)]; exact hA.2.2.2.2.1)) (fun w m2 h => ?_)
      rw [g 102 (by decide), g 107 (by decide)] at h
      rcases h with ⟨c2, -⟩ | ⟨-, rfl, e⟩
      · exact absurd c2 c1
      · have e98 : ∀ f, f ≠ 18 → m2 98 f = m 98 f := fun f a => by rw [← e, jst_n _ _ _ (by decide), jst_s, upd_n _ _ a, jup_n _ _ (by decide), g 98 (by decide)]
        have k : ∀ c, c ≠ 98 → c ≠ 102 → c ≠ 107 → m2 c = m1 c := fun c a b d => by rw [← e, jst_n _ _ _ b, jst_n _ _ _ a, jup_n _ _ d]
        have e102 : m2 102 = upd (m 102) (31 + p) (m 102 (31 + p) ^^^ ((1 : Int32) <<< (nI s &&& 31))) := by
          rw [← e, jst_s, jst_n _ _ _ (by decide), jup_n _ _ (by decide), g 102 (by decide)]
        have e0 : ∀ f, f ≠ 6 → f ≠ 7 → m2 0 f = m 0 f := fun f a b => by rw [k 0 (by decide) (by decide) (by decide), hf0, upd_n _ _ a, upd_n _ _ b]
        have hx : 0 ≤ m 102 (31 + p) ^^^ ((1 : Int32) <<< (nI s &&& 31)) ∧ m 102 (31 + p) ^^^ ((1 : Int32) <<< (nI s &&& 31)) ≤ 7 := hr_xor (hW.hr p hp) (by omega)
        have ee : ∀ c, c ≠ 0 → c < 66 → c ≠ 28 → m2 c = m c := fun c a b d => by rw [k c (by omega) (by omega) (by omega)]; exact hf c a (by omega) d
        refine ⟨rfl, h1.fr (fun c a b => ee c (by omega) (by omega) (by omega)) (by rw [k 99 (by decide) (by decide) (by decide), g 99 (by decide)]) (by rw [k 100 (by decide) (by decide) (by decide), g 100 (by decide)]) (by rw [k 101 (by decide) (by decide) (by decide), g 101 (by decide)]), ?_, ⟨V, P, noteN n, nxA q, ⟨hV, hP, ?_, ?_, ?_, Or.inr ⟨?_, ?_, ?_⟩⟩, ?_⟩, ?_, ?_, ?_, ?_⟩
        · exact h2.fr (ee 19 (by decide) (by decide) (by decide)) (by rw [k 104 (by decide) (by decide) (by decide), g 104 (by decide)]) (by rw [ee 18 (by decide) (by decide) (by decide)]) (e98 8 (by decide))
        · rw [e102]; exact hr.fr (fun c a b => k c (by omega) (by omega) (by omega))
        · rw [e102, upd_n _ _ (by omega)]; exact e1
        · rw [e102, upd_n _ _ (by omega)]; exact e2
        · rw [ee 20 (by decide) (by decide) (by decide)]; exact t1
        · rw [e98 4 (by decide)]; exact t2
        · rw [e102]; exact hW.hrs hp hx
        · refine hA.push hW (hg.fr (k _ (by have := hA.2.1; omega) (by have := hA.2.1; omega) (by have := hA.2.1; omega))) (fun c a b d => by rw [k c (by omega) (by omega) (by omega)]; exact hf c (by omega) d (by omega)) ?_ ?_ ?_ ?_ ?_
          · rw [k 0 (by decide) (by decide) (by decide), hf0, upd_s]
          · rw [k 0 (by decide) (by decide) (by decide), hf0, upd_n _ _ (by decide), upd_s]
          · rw [← e, jst_n _ _ _ (by decide), jst_s, upd_s]
          · rw [← e, jst_n _ _ _ (by decide), jst_n _ _ _ (by decide), jup_s]
          · intro i hi; rw [e102, upd_n _ _ (by omega)]
        · exact h5.fr (fun c a b => ee c (by omega) (by omega) (by omega)) (by rw [k 110 (by decide) (by decide) (by decide), g 110 (by decide)]) (by rw [k 111 (by decide) (by decide) (by decide), g 111 (by decide)]) (e98 4 (by decide))
        · exact h6.fr (e0 15 (by decide) (by decide)) (e98 25 (by decide)) (by rw [k 97 (by decide) (by decide) (by decide), g 97 (by decide)]) (by rw [k 112 (by decide) (by decide) (by decide), g 112 (by decide)])
        · rw [e0 17 (by decide) (by decide), e98 3 (by decide)]; exact h7
        · rw [e0 16 (by decide) (by decide), e98 9 (by decide)]; exact h8
  · exact sim_bad hI (s_Jwin_b m (m 102) V P hV hP hR x y z hb) (s_Dwin_b m V hV e1 P hP e2 x y z hb)
