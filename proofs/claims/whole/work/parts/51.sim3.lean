/-! ===== call by call: bars, acts undone, images, texts ===== -/
theorem S_bar (m : jM) (hI : Inv m) (a b c : Int32) : SIM mX3_bar mX4_bar [.int a, .int b, .int c] m := by
  obtain ⟨h1, h2, ⟨V, P, n, q, hK, hA⟩, h5, h6, h7, h8⟩ := id hI
  obtain ⟨hV, hP, hR, e1, e2, ht⟩ := id hK
  have hq := hA.2.1
  rcases ht with ⟨t1, t2, -, -⟩ | ⟨t1, t2, hW⟩
  · exact sim_bad hI (s_Jbar_s m a b c t1) (s_Dbar_s m a b c t2)
  · refine iX_mono (s_Jbar m (m 102) V P hW hR t1 n q hA.1 hA.2.1 hA.2.2.1 hA.2.2.2.1 a b c) (fun v m1 h => ?_)
    rcases h with ⟨c1, rfl, e⟩ | ⟨c1, c2, rfl, e⟩ | ⟨c1, c2, rfl, hg, hr, hf, hf2, hf0⟩
    · have g : ∀ c, 90 < c → m1 c = m c := fun c hc => by rw [← e, jup_n _ _ (by omega)]
      refine iX_mono (s_Dbar m1 V hV (by rw [g 102 (by decide)]; exact e1) P hP (by rw [g 102 (by decide)]; exact e2) (by rw [g 98 (by decide)]; exact t2) n hA.1 (by rw [g 98 (by decide)]; exact hA.2.2.2.2.1) a b c) (fun w m2 h => ?_)
      rw [g 102 (by decide)] at h
      rcases h with ⟨-, rfl, e'⟩ | ⟨d1, -⟩ | ⟨d1, -⟩
      · exact ⟨rfl, hI.ask (m1 := m1) (by rw [← e]; exact SQ.v m _) (by rw [← e']; exact ⟨fun c _ a _ _ => jup_n _ _ a, fun f _ _ => by rw [jup_n _ _ (by decide)]⟩) (by rw [← e', jup_n _ _ (by decide), g 98 (by decide), ← e, jup_n _ _ (by decide)]; exact h7.symm)⟩
      · exact absurd d1 c1
      · exact absurd d1 c1
    · have g : ∀ c, 90 < c → m1 c = m c := fun c hc => by rw [← e, jup_n _ _ (by omega)]
      refine iX_mono (s_Dbar m1 V hV (by rw [g 102 (by decide)]; exact e1) P hP (by rw [g 102 (by decide)]; exact e2) (by rw [g 98 (by decide)]; exact t2) n hA.1 (by rw [g 98 (by decide)]; exact hA.2.2.2.2.1) a b c) (fun w m2 h => ?_)
      rw [g 102 (by decide)] at h
      rcases h with ⟨d1, -⟩ | ⟨-, -, rfl, e'⟩ | ⟨-, d2, -⟩
      · exact absurd c1 d1
      · exact ⟨rfl, hI.ask (m1 := m1) (by rw [← e]; exact SQ.v m _) (by rw [← e']; exact ⟨fun c _ a _ _ => jup_n _ _ a, fun f _ _ => by rw [jup_n _ _ (by decide)]⟩) (by rw [← e', jup_n _ _ (by decide), g 98 (by decide), ← e, jup_n _ _ (by decide)]; exact h7.symm)⟩
      · rw [c2] at d2; exact absurd d2 (by decide)
    · have g : ∀ c, 90 < c → m1 c = m c := fun c hc => hf c (by omega) (by omega) (by omega) (by omega)
      refine iX_mono (s_Dbar m1 V hV (by rw [g 102 (by decide)]; exact e1) P hP (by rw [g 102 (by decide)]; exact e2) (by rw [g 98 (by decide)]; exact t2) n hA.1 (by rw [g 98 (by decide)]; exact hA.2.2.2.2.1) a b c) (fun w m2 h => ?_)
      rw [g 102 (by decide), g 106 (by decide), g 107 (by decide)] at h
      rcases h with ⟨d1, -⟩ | ⟨-, d2, -⟩ | ⟨-, -, rfl, e⟩
      · exact absurd c1 d1
      · rw [c2] at d2; exact absurd d2 (by decide)
      · have hn := barO_ok hV c1
        have e98 : ∀ f, f ≠ 18 → m2 98 f = m 98 f := fun f a => by rw [← e, jup_n _ _ (by decide), jst_s, upd_n _ _ a, jup_n _ _ (by decide), jup_n _ _ (by decide), g 98 (by decide)]
        have k : ∀ c, c ≠ 98 → c ≠ 102 → c ≠ 106 → c ≠ 107 → m2 c = m1 c := fun c a b d f => by rw [← e, jup_n _ _ b, jst_n _ _ _ a, jup_n _ _ f, jup_n _ _ d]
        have e102 : m2 102 = oneB (m 102) (nt3 a b c) V P := by rw [← e, jup_s]
        have e0 : ∀ f, f ≠ 6 → f ≠ 7 → m2 0 f = m 0 f := fun f a b => by rw [k 0 (by decide) (by decide) (by decide) (by decide), hf0, upd_n _ _ a, upd_n _ _ b]
        have ee : ∀ c, c ≠ 0 → c < 66 → (c < 20 ∨ 30 < c) → m2 c = m c := fun c a b d => by rw [k c (by omega) (by omega) (by omega) (by omega)]; exact hf c a (by omega) (by omega) d
        refine ⟨rfl, h1.fr (fun c a b => ee c (by omega) (by omega) (by omega)) (by rw [k 99 (by decide) (by decide) (by decide) (by decide), g 99 (by decide)]) (by rw [k 100 (by decide) (by decide) (by decide) (by decide), g 100 (by decide)]) (by rw [k 101 (by decide) (by decide) (by decide) (by decide), g 101 (by decide)]), ?_, ⟨V, P, noteN n, nxA q, ⟨hV, hP, ?_, ?_, ?_, Or.inr ⟨?_, ?_, ?_⟩⟩, ?_⟩, ?_, ?_, ?_, ?_⟩
        · exact h2.fr (ee 19 (by decide) (by decide) (by decide)) (by rw [k 104 (by decide) (by decide) (by decide) (by decide), g 104 (by decide)]) (by rw [ee 18 (by decide) (by decide) (by decide)]) (e98 8 (by decide))
        · rw [e102]; exact hr.fr (fun c a b => k c (by omega) (by omega) (by omega) (by omega))
        · rw [e102, oneB_lo hV (by omega) (by decide)]; exact e1
        · rw [e102, oneB_lo hV (by omega) (by decide)]; exact e2
        · rw [k 20 (by decide) (by decide) (by decide) (by decide), hf2]; exact t1
        · rw [e98 4 (by decide)]; exact t2
        · rw [e102]; exact hW.one hn
        · refine hA.push hW (hg.fr (k _ (by omega) (by omega) (by omega) (by omega))) (fun c a b d => by rw [k c (by omega) (by omega) (by omega) (by omega)]; exact hf c (by omega) d (by omega) (by omega)) ?_ ?_ ?_ ?_ ?_
          · rw [k 0 (by decide) (by decide) (by decide) (by decide), hf0, upd_s]
          · rw [k 0 (by decide) (by decide) (by decide) (by decide), hf0, upd_n _ _ (by decide), upd_s]
          · rw [← e, jup_n _ _ (by decide), jst_s, upd_s]
          · rw [← e, jup_n _ _ (by decide), jst_n _ _ _ (by decide), jup_s]
          · intro i hi; rw [e102, oneB_lo hV (by omega) (by omega)]
        · exact h5.fr (fun c a b => ee c (by omega) (by omega) (by omega)) (by rw [k 110 (by decide) (by decide) (by decide) (by decide), g 110 (by decide)]) (by rw [k 111 (by decide) (by decide) (by decide) (by decide), g 111 (by decide)]) (e98 4 (by decide))
        · exact h6.fr (e0 15 (by decide) (by decide)) (e98 25 (by decide)) (by rw [k 97 (by decide) (by decide) (by decide) (by decide), g 97 (by decide)]) (by rw [k 112 (by decide) (by decide) (by decide) (by decide), g 112 (by decide)])
        · rw [e0 17 (by decide) (by decide), e98 3 (by decide)]; exact h7
        · rw [e0 16 (by decide) (by decide), e98 9 (by decide)]; exact h8
theorem S_undo (m : jM) (hI : Inv m) : SIM mX3_undo mX4_undo [] m := by
  obtain ⟨h1, h2, ⟨V, P, n, q, hK, hA⟩, h5, h6, h7, h8⟩ := id hI
  obtain ⟨hV, hP, hR, e1, e2, ht⟩ := id hK
  rcases n with _ | n
  · exact sim_bad hI (s_Jundo0 m hA.2.2.1) (s_Dundo0 m hA.2.2.2.2.1)
  · obtain ⟨n24, hq, a6, a7, a18, hj⟩ := id hA
    obtain ⟨g1, g2, g3⟩ := hj 0 (by omega)
    rw [pgA_p0 hq] at g1
    refine iX_mono (s_Jundo m (m 102) V P hV hP hR _ g2 n q (by omega) hq a6 a7 g1) (fun v m1 h => ?_)
    obtain ⟨rfl, hr, hf, hf2, hf0⟩ := h
    have g : ∀ c, 30 < c → m1 c = m c := fun c hc => hf c (by omega) (Or.inr hc)
    refine iX_mono (s_Dundo m1 n (by omega) (by rw [g 98 (by decide)]; exact a18)) (fun w m2 h => ?_)
    obtain ⟨e3, e⟩ := h
    have k : ∀ c, c ≠ 98 → c ≠ 102 → m2 c = m1 c := fun c a b => by rw [← e, jup_n _ _ b, jst_n _ _ _ a]
    have e98 : ∀ f, f ≠ 18 → m2 98 f = m 98 f := fun f a => by rw [← e, jup_n _ _ (by decide), jst_s, upd_n _ _ a, g 98 (by decide)]
    have e102 : ∀ i, i < 51 → m2 102 i = m 107 (51 * (n + 1 - 1 - 0) + i) := fun i hi => by
      rw [← e, jup_s, cpy_at hi (Nat.zero_add i), g 107 (by decide)]
      congr 1
    have e0 : ∀ f, f ≠ 6 → f ≠ 7 → m2 0 f = m 0 f := fun f a b => by rw [k 0 (by decide) (by decide), hf0, upd_n _ _ b, upd_n _ _ a]
    have ee : ∀ c, c ≠ 0 → c ≠ 98 → c ≠ 102 → (c < 20 ∨ 30 < c) → m2 c = m c := fun c a b d f => by rw [k c b d]; exact hf c a f
    have hS : SS (m 102) (m2 102) := fun i hi => (e102 i (by omega)).trans (g2 i hi)
    refine ⟨e3, h1.fr (fun c a b => ee c (by omega) (by omega) (by omega) (by omega)) (ee 99 (by decide) (by decide) (by decide) (by decide)) (ee 100 (by decide) (by decide) (by decide) (by decide)) (ee 101 (by decide) (by decide) (by decide) (by decide)), ?_, ⟨V, P, n, pvA q, ⟨hV, hP, ?_, ?_, ?_, ?_⟩, ?_⟩, ?_, ?_, ?_, ?_⟩
    · exact h2.fr (ee 19 (by decide) (by decide) (by decide) (by decide)) (ee 104 (by decide) (by decide) (by decide) (by decide)) (by rw [ee 18 (by decide) (by decide) (by decide) (by decide)]) (e98 8 (by decide))
    · exact (hr.fr (fun c a b => k c (by omega) (by omega))).cg hV hP e102
    · rw [hS 1 (by omega)]; exact e1
    · rw [hS 2 (by omega)]; exact e2
    · rw [k 20 (by decide) (by decide), hf2, e98 4 (by decide)]
      rcases ht with t | ⟨t1, t2, -⟩
      · exact Or.inl t
      · exact Or.inr ⟨t1, t2, g3.cg (fun i hi _ _ => e102 i hi)⟩
    · refine hA.pop hV hP (fun c a b => ee c (by omega) (by omega) (by omega) (by omega)) ?_ ?_ ?_ (ee 107 (by decide) (by decide) (by decide) (by decide)) hS
      · rw [k 0 (by decide) (by decide), hf0, upd_n _ _ (by decide), upd_s]
      · rw [k 0 (by decide) (by decide), hf0, upd_s]
      · rw [← e, jup_n _ _ (by decide), jst_s, upd_s]
    · exact h5.fr (fun c a b => ee c (by omega) (by omega) (by omega) (by omega)) (ee 110 (by decide) (by decide) (by decide) (by decide)) (ee 111 (by decide) (by decide) (by decide) (by decide)) (e98 4 (by decide))
    · exact h6.fr (e0 15 (by decide) (by decide)) (e98 25 (by decide)) (ee 97 (by decide) (by decide) (by decide) (by decide)) (ee 112 (by decide) (by decide) (by decide) (by decide))
    · rw [e0 17 (by decide) (by decide), e98 3 (by decide)]; exact h7
    · rw [e0 16 (by decide) (by decide), e98 9 (by decide)]; exact h8
theorem S_image (m : jM) (hI : Inv m) (x : Int32) : SIM mX3_image mX4_image [.int x] m := by
  obtain ⟨h1, h2, ⟨V, P, n, q, hK, hA⟩, h5, h6, h7, h8⟩ := id hI
  obtain ⟨hV, hP, hR, e1, e2, ht⟩ := id hK
  by_cases hb : inN x 2
  · rcases ht with ⟨t1, t2, -, -⟩ | ⟨t1, t2, hW⟩
    · exact sim_bad hI (s_Jimage_s m x hb t1) (s_Dimage_s m x hb t2)
    · obtain ⟨k, hk, rfl⟩ := inN_of (by decide) hb
      refine iX_mono (s_Jimage m (m 102) V P hV hP hR k hk t1) (fun v m1 h => ?_)
      obtain ⟨rfl, hr, hr0, hf⟩ := h
      have g : ∀ c, 64 < c → m1 c = m c := fun c hc => hf c (by omega)
      refine iX_mono (s_Dimage m1 k hk (by rw [g 98 (by decide)]; exact t2)) (fun w m2 h => ?_)
      obtain ⟨e3, e⟩ := h
      rw [g 102 (by decide), g 111 (by decide)] at e
      have kk : ∀ c, c ≠ 110 → c ≠ 111 → m2 c = m1 c := fun c a b => by rw [← e, jst_n _ _ _ a, jup_n _ _ b]
      have ee : ∀ c, c ≠ 110 → c ≠ 111 → (c < 43 ∨ 64 < c) → m2 c = m c := fun c a b d => by rw [kk c a b]; exact hf c (by omega)
      have e0 : m2 0 = m 0 := ee 0 (by decide) (by decide) (by decide)
      have e98 : m2 98 = m 98 := ee 98 (by decide) (by decide) (by decide)
      refine ⟨e3, h1.fr (fun c a b => ee c (by omega) (by omega) (by omega)) (ee 99 (by decide) (by decide) (by decide)) (ee 100 (by decide) (by decide) (by decide)) (ee 101 (by decide) (by decide) (by decide)), ?_, ⟨V, P, n, q, ?_, ?_⟩, ?_, ?_, ?_, ?_⟩
      · exact h2.fr (ee 19 (by decide) (by decide) (by decide)) (ee 104 (by decide) (by decide) (by decide)) (by rw [ee 18 (by decide) (by decide) (by decide)]) (by rw [e98])
      · exact hK.fr (fun c a b => ee c (by omega) (by omega) (by omega)) (by rw [e98]) (ee 102 (by decide) (by decide) (by decide))
      · exact hA.fr (by rw [e0]) (by rw [e0]) (by rw [e98]) (fun c a b => ee c (by omega) (by omega) (by omega)) (ee 107 (by decide) (by decide) (by decide)) (ee 102 (by decide) (by decide) (by decide))
      · intro j hj
        by_cases hjk : j = k
        · subst hjk
          have e111 : ∀ i, i < 51 → m2 111 (51 * j + i) = m 102 i := fun i hi => by
            rw [← e, jst_n _ _ _ (by decide), jup_s, cpy_at hi rfl, Nat.zero_add]
          refine Or.inr ⟨by rw [kk _ (by omega) (by omega)]; exact hr0, by rw [← e, jst_s, upd_s], by rw [e98]; exact t2, V, P, hW.cg (fun i hi _ _ => e111 i hi), ?_, (e111 1 (by decide)).trans e1, (e111 2 (by decide)).trans e2⟩
          exact (hr.fr (fun c a b => kk c (by omega) (by omega))).cg hV hP e111
        · have e110 : m2 110 j = m 110 j := by rw [← e, jst_s, upd_n _ _ hjk, jup_n _ _ (by decide), g 110 (by decide)]
          have e111 : ∀ i, i < 51 → m2 111 (51 * j + i) = m 111 (51 * j + i) := fun i hi => by
            rw [← e, jst_n _ _ _ (by decide), jup_s, cpy_out (by omega)]
          have ek : ∀ c, 43 + 11 * j ≤ c → c ≤ 43 + 11 * j + 10 → m2 c = m c := fun c a b => by rw [kk c (by omega) (by omega)]; exact hf c (by omega)
          rw [e110, ek _ (Nat.le_refl _) (by omega), e98]
          rcases h5 j hj with y | ⟨y1, y2, y3, V', P', y4, y5, y6, y7⟩
          · exact Or.inl y
          · exact Or.inr ⟨y1, y2, y3, V', P', y4.cg (fun i hi _ _ => e111 i hi), (y5.fr ek).cg y4.v3 y4.p5 e111, (e111 1 (by decide)).trans y6, (e111 2 (by decide)).trans y7⟩
      · exact h6.fr (by rw [e0]) (by rw [e98]) (ee 97 (by decide) (by decide) (by decide)) (ee 112 (by decide) (by decide) (by decide))
      · rw [e0, e98]; exact h7
      · rw [e0, e98]; exact h8
  · exact sim_bad hI (s_Jimage_b m x hb) (s_Dimage_b m x hb)
theorem S_restore (m : jM) (hI : Inv m) (x : Int32) : SIM mX3_restore mX4_restore [.int x] m := by
  obtain ⟨h1, h2, ⟨V0, P0, n, q, hK, hA⟩, h5, h6, h7, h8⟩ := id hI
  by_cases hb : inN x 2
  · obtain ⟨j, hj, rfl⟩ := inN_of (by decide) hb
    rcases h5 j hj with ⟨y1, y2⟩ | ⟨y1, y2, y3, V, P, hW, hR, e1, e2⟩
    · exact sim_bad hI (s_Jrestore_s m j hj y1) (s_Drestore_s m j hj y2)
    · have hV := hW.v3
      have hP := hW.p5
      refine iX_mono (s_Jrestore m _ V P hV hP j hj hR y1) (fun v m1 h => ?_)
      obtain ⟨rfl, hr, hr0, hf, hf0⟩ := h
      have g : ∀ c, 30 < c → m1 c = m c := fun c hc => hf c (by omega) (Or.inr hc)
      refine iX_mono (s_Drestore m1 j hj (by rw [g 110 (by decide)]; exact y2)) (fun w m2 h => ?_)
      obtain ⟨e3, e⟩ := h
      rw [g 102 (by decide), g 111 (by decide)] at e
      have kk : ∀ c, c ≠ 98 → c ≠ 102 → m2 c = m1 c := fun c a b => by rw [← e, jst_n _ _ _ a, jup_n _ _ b]
      have ee : ∀ c, c ≠ 0 → c ≠ 98 → c ≠ 102 → (c < 20 ∨ 30 < c) → m2 c = m c := fun c a b d f => by rw [kk c b d]; exact hf c a f
      have e102 : ∀ i, i < 51 → m2 102 i = m 111 (51 * j + i) := fun i hi => by
        rw [← e, jst_n _ _ _ (by decide), jup_s, cpy_at hi (Nat.zero_add i)]
      have e0 : ∀ f, f ≠ 6 → m2 0 f = m 0 f := fun f a => by rw [kk 0 (by decide) (by decide), hf0, upd_n _ _ a]
      have e98 : ∀ f, f ≠ 18 → m2 98 f = m 98 f := fun f a => by rw [← e, jst_s, upd_n _ _ a, jup_n _ _ (by decide), g 98 (by decide)]
      refine ⟨e3, h1.fr (fun c a b => ee c (by omega) (by omega) (by omega) (by omega)) (ee 99 (by decide) (by decide) (by decide) (by decide)) (ee 100 (by decide) (by decide) (by decide) (by decide)) (ee 101 (by decide) (by decide) (by decide) (by decide)), ?_, ⟨V, P, 0, q, ⟨hV, hP, ?_, ?_, ?_, Or.inr ⟨?_, ?_, ?_⟩⟩, ?_⟩, ?_, ?_, ?_, ?_⟩
      · exact h2.fr (ee 19 (by decide) (by decide) (by decide) (by decide)) (ee 104 (by decide) (by decide) (by decide) (by decide)) (by rw [ee 18 (by decide) (by decide) (by decide) (by decide)]) (e98 8 (by decide))
      · exact (hr.fr (fun c a b => kk c (by omega) (by omega))).cg hV hP e102
      · exact (e102 1 (by decide)).trans e1
      · exact (e102 2 (by decide)).trans e2
      · rw [kk 20 (by decide) (by decide)]; exact hr0
      · rw [e98 4 (by decide)]; exact y3
      · exact hW.cg (fun i hi _ _ => e102 i hi)
      · refine vA.none hA.2.1 ?_ ((e0 7 (by decide)).trans hA.2.2.2.1) ?_
        · rw [kk 0 (by decide) (by decide), hf0, upd_s]
        · rw [← e, jst_s, upd_s]
      · exact h5.fr (fun c a b => ee c (by omega) (by omega) (by omega) (by omega)) (ee 110 (by decide) (by decide) (by decide) (by decide)) (ee 111 (by decide) (by decide) (by decide) (by decide)) (e98 4 (by decide))
      · exact h6.fr (e0 15 (by decide)) (e98 25 (by decide)) (ee 97 (by decide) (by decide) (by decide) (by decide)) (ee 112 (by decide) (by decide) (by decide) (by decide))
      · rw [e0 17 (by decide), e98 3 (by decide)]; exact h7
      · rw [e0 16 (by decide), e98 9 (by decide)]; exact h8
  · exact sim_bad hI (s_Jrestore_b m x hb) (s_Drestore_b m x hb)
theorem S_kitchen (m : jM) (hI : Inv m) : SIM mX3_kitchen mX4_kitchen [] m := by
  obtain ⟨h1, ⟨e19, len, hl, es, ed⟩, ⟨V0, P0, n, q, hK, hA⟩, h5, h6, h7, h8⟩ := id hI
  refine iX_mono (s_Jkitchen m len hl es (va_cpy (fun _ => 0) (m 105) 0 0 51) (fun i hi => cpy_in0 hi)) (fun v m1 h => ?_)
  rw [e19] at h
  rcases h with ⟨x, p, hR, rfl, f19, f18, f0, ff⟩ | ⟨rd, p, V, P, hR, rfl, hV, hP, r1, r2, hW, hr, hr0, f19, f18, f0, ff⟩
  · have g : ∀ c, 41 < c → m1 c = m c := fun c hc => ff c (by omega) (by omega) (Or.inr hc)
    refine iX_mono (s_Dkitchen m1 len hl (by rw [g 98 (by decide)]; exact ed)) (fun w m2 h => ?_)
    rw [g 104 (by decide), g 105 (by decide)] at h
    rcases h with ⟨x', p', hR', rfl, gc, gf, g8, g9⟩ | ⟨rd', p', hR', -⟩
    · rw [hR] at hR'
      cases hR'
      have ee : ∀ c, c ≠ 0 → c ≠ 18 → c ≠ 98 → c ≠ 105 → (c < 31 ∨ 41 < c) → m2 c = m c := fun c a b d f k => by rw [gc c d f]; exact ff c a b k
      have e0 : ∀ f, f ≠ 16 → m2 0 f = m 0 f := fun f a => by rw [gc 0 (by decide) (by decide), f0, upd_n _ _ a]
      have e98 : ∀ f, f < 8 ∨ 14 < f → m2 98 f = m 98 f := fun f a => by rw [gf f a, g 98 (by decide)]
      refine ⟨rfl, h1.fr (fun c a b => by
        by_cases c18 : c = 18
        · omega
        · exact ee c (by omega) c18 (by omega) (by omega) (by omega)) (ee 99 (by decide) (by decide) (by decide) (by decide) (by decide)) (ee 100 (by decide) (by decide) (by decide) (by decide) (by decide)) (ee 101 (by decide) (by decide) (by decide) (by decide) (by decide)), ⟨?_, 0, by decide, ?_, ?_⟩, ⟨V0, P0, n, q, ?_, ?_⟩, ?_, ?_, ?_, ?_⟩
      · rw [gc 19 (by decide) (by decide), f19, ee 104 (by decide) (by decide) (by decide) (by decide) (by decide)]
      · rw [gc 18 (by decide) (by decide), f18]; rfl
      · rw [g8]; rfl
      · exact hK.fr (fun c a b => ee c (by omega) (by omega) (by omega) (by omega) (by omega)) (e98 4 (by decide)) (ee 102 (by decide) (by decide) (by decide) (by decide) (by decide))
      · exact hA.fr (e0 6 (by decide)) (e0 7 (by decide)) (e98 18 (by decide)) (fun c a b => ee c (by omega) (by omega) (by omega) (by omega) (by omega)) (ee 107 (by decide) (by decide) (by decide) (by decide) (by decide)) (ee 102 (by decide) (by decide) (by decide) (by decide) (by decide))
      · exact h5.fr (fun c a b => ee c (by omega) (by omega) (by omega) (by omega) (by omega)) (ee 110 (by decide) (by decide) (by decide) (by decide) (by decide)) (ee 111 (by decide) (by decide) (by decide) (by decide) (by decide)) (e98 4 (by decide))
      · exact h6.fr (e0 15 (by decide)) (e98 25 (by decide)) (ee 97 (by decide) (by decide) (by decide) (by decide) (by decide)) (ee 112 (by decide) (by decide) (by decide) (by decide) (by decide))
      · rw [e0 17 (by decide), e98 3 (by decide)]; exact h7
      · rw [gc 0 (by decide) (by decide), f0, upd_s, g9]
    · rw [hR] at hR'
      cases hR'
  · have g : ∀ c, 41 < c → m1 c = m c := fun c hc => ff c (by omega) (by omega) (Or.inr hc)
    refine iX_mono (s_Dkitchen m1 len hl (by rw [g 98 (by decide)]; exact ed)) (fun w m2 h => ?_)
    rw [g 104 (by decide), g 105 (by decide), g 102 (by decide)] at h
    rcases h with ⟨x', p', hR', -⟩ | ⟨rd', p', hR', e3, gc, gf, g8, g4, g18, g102⟩
    · rw [hR] at hR'
      cases hR'
    · rw [hR] at hR'
      cases hR'
      have ee : ∀ c, c ≠ 0 → c ≠ 18 → c ≠ 98 → c ≠ 102 → c ≠ 105 → (c < 20 ∨ 41 < c) → m2 c = m c := fun c a b d f x k => by rw [gc c d x f]; exact ff c a b k
      have e0 : ∀ f, f ≠ 6 → m2 0 f = m 0 f := fun f a => by rw [gc 0 (by decide) (by decide) (by decide), f0, upd_n _ _ a]
      have e98 : ∀ f, f ≠ 4 → f ≠ 18 → f < 8 ∨ 9 ≤ f ∧ f < 10 ∨ 14 < f → m2 98 f = m 98 f := fun f a b c => by rw [gf f a b c, g 98 (by decide)]
      have e102 : ∀ i, i < 51 → m2 102 i = rd i := fun i hi => by rw [g102, cpy_in0 hi]
      refine ⟨e3.trans r2, h1.fr (fun c a b => by
        by_cases c18 : c = 18
        · omega
        · exact ee c (by omega) c18 (by omega) (by omega) (by omega) (by omega)) (ee 99 (by decide) (by decide) (by decide) (by decide) (by decide) (by decide)) (ee 100 (by decide) (by decide) (by decide) (by decide) (by decide) (by decide)) (ee 101 (by decide) (by decide) (by decide) (by decide) (by decide) (by decide)), ⟨?_, 0, by decide, ?_, ?_⟩, ⟨V, P, 0, q, ⟨hV, hP, ?_, ?_, ?_, Or.inr ⟨?_, g4, ?_⟩⟩, ?_⟩, ?_, ?_, ?_, ?_⟩
      · rw [gc 19 (by decide) (by decide) (by decide), f19, ee 104 (by decide) (by decide) (by decide) (by decide) (by decide) (by decide)]
      · rw [gc 18 (by decide) (by decide) (by decide), f18]; rfl
      · rw [g8]; rfl
      · exact (hr.fr (fun c a b => gc c (by omega) (by omega) (by omega))).cg hV hP e102
      · exact (e102 1 (by decide)).trans r1
      · exact (e102 2 (by decide)).trans r2
      · rw [gc 20 (by decide) (by decide) (by decide)]; exact hr0
      · exact hW.cg (fun i hi _ _ => e102 i hi)
      · exact vA.none hA.2.1 (by rw [gc 0 (by decide) (by decide) (by decide), f0, upd_s]) ((e0 7 (by decide)).trans hA.2.2.2.1) g18
      · intro j hj
        have ek : ∀ c, 43 ≤ c → c ≤ 64 → m2 c = m c := fun c a b => ee c (by omega) (by omega) (by omega) (by omega) (by omega) (by omega)
        rw [ek _ (by omega) (by omega), ee 110 (by decide) (by decide) (by decide) (by decide) (by decide) (by decide), ee 111 (by decide) (by decide) (by decide) (by decide) (by decide) (by decide), g4]
        rcases h5 j hj with y | ⟨y1, y2, -, V', P', y4, y5, y6⟩
        · exact Or.inl y
        · exact Or.inr ⟨y1, y2, rfl, V', P', y4, y5.fr (fun c a b => ek c (by omega) (by omega)), y6⟩
      · exact h6.fr (e0 15 (by decide)) (e98 25 (by decide) (by decide) (by decide)) (ee 97 (by decide) (by decide) (by decide) (by decide) (by decide) (by decide)) (ee 112 (by decide) (by decide) (by decide) (by decide) (by decide) (by decide))
      · rw [e0 17 (by decide), e98 3 (by decide) (by decide) (by decide)]; exact h7
      · rw [e0 16 (by decide), e98 9 (by decide) (by decide) (by decide)]; exact h8
