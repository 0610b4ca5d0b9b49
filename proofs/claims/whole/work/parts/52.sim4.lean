/-! ===== call by call: what is foretold ===== -/
/-- a tune that can be taken: what the class has of it -/
theorem tune_j {m : jM} (hI : Inv m) {r n i k : Nat} (hr : r < 8) (hk : k ≤ 40) (hsz : m 100 r = nI k) (hik : i + n ≤ k) (hg : goodB (m 101) (40 * r + i) n = true) : m (2 + 2 * r) 0 = 1 ∧ m (2 + 2 * r) 2 = nI k ∧ goodB (m (2 + 2 * r + 1)) i n = true ∧ ∀ j, j < n → m (2 + 2 * r + 1) (i + j) = (fun j => m 101 (40 * r + i + j)) j := by
  obtain ⟨a, b, -, d⟩ := (hI.row hr).at hk hsz
  have e : ∀ j, j < n → m (2 + 2 * r + 1) (i + j) = m 101 (40 * r + i + j) := fun j hj => by rw [d _ (by omega), Nat.add_assoc]
  exact ⟨a, b, (goodB_congr n e).trans hg, e⟩
theorem sz_e {m m1 : jM} {r : Nat} (e : m1 100 = m 100) (h : szOK m r) : szOK m1 r := by
  unfold szOK
  rw [e]
  exact h
theorem S_alone (m : jM) (hI : Inv m) (x y i z : Int32) : SIM mX3_alone mX4_alone [.int x, .int y, .int i, .int z] m := by
  obtain ⟨h1, h2, ⟨V, P, nn, q, hK, hA⟩, h5, h6, h7, h8⟩ := id hI
  obtain ⟨hV, hP, hR, e1, e2, ht⟩ := id hK
  by_cases hb : inN x V ∧ inN y 8 ∧ inN z 17
  · obtain ⟨hx, hy, hz⟩ := hb
    obtain ⟨s, hs, rfl⟩ := inN_of (by omega) hx
    obtain ⟨r, hr, rfl⟩ := inN_of (by decide) hy
    obtain ⟨n, hn, rfl⟩ := inN_of (by decide) hz
    replace hn : n ≤ 16 := by omega
    obtain ⟨t1, t2, hW⟩ := hK.t (Or.inl (by omega))
    by_cases htn : tuneOK m r i n
    · obtain ⟨i, k, rfl, hk, hsz, hik, hg⟩ := htn
      obtain ⟨j0, j2, jg, jt⟩ := tune_j hI hr hk hsz hik hg
      refine sim_ask hI (s_Jalone m (m 102) V P hW hR t1 s hs r hr n hn i k j0 hk j2 hik jg _ jt) (fun m1 hq => ?_)
      have g : ∀ c, 98 ≤ c → m1 c = m c := fun c hc => hq.hi c (by omega)
      refine iX_mono (s_Dalone m1 V hV (by rw [g 102 (by decide)]; exact e1) P hP (by rw [g 102 (by decide)]; exact e2) s hs r hr n hn i k hk (by rw [g 100 (by decide)]; exact hsz) hik (by rw [g 101 (by decide)]; exact hg)) (fun w m2 h => ?_)
      rw [g 102 (by decide), g 101 (by decide)] at h
      obtain ⟨ew, f, em⟩ := h
      have hX : ∀ j, 51 ≤ j → aloneB (m 102) s (fun j => m 101 (40 * r + i + j)) 0 V P n j = m1 102 j := fun j hj => by rw [g 102 (by decide)]; exact aloneB_hi hV hP hj n
      rw [bak_ex m1 f _ hX] at em
      exact ⟨ew, by rw [em]; exact DQ.a m1 f 0, by rw [em, jst3]⟩
    · exact sim_lack hI (s_Jalone_f m (m 102) V P hV hP hR s hs r hr n hn i (hI.row hr) htn) (fun m1 hq => s_Dalone_f m1 V hV (by rw [hq.hi 102 (by decide)]; exact e1) s hs r hr n hn i (sz_e (hq.hi 100 (by decide)) (hI.row hr).sz) (tune_e (hq.hi 100 (by decide)) (hq.hi 101 (by decide)) htn))
  · exact sim_bad hI (s_Jalone_b m (m 102) V P hV hP hR x y i z hb) (s_Dalone_b m V hV e1 x y i z hb)
theorem S_round (m : jM) (hI : Inv m) (x y i z : Int32) : SIM mX3_round mX4_round [.int x, .int y, .int i, .int z] m := by
  obtain ⟨h1, h2, ⟨V, P, nn, q, hK, hA⟩, h5, h6, h7, h8⟩ := id hI
  obtain ⟨hV, hP, hR, e1, e2, ht⟩ := id hK
  rcases ht with ⟨t1, t2, -, -⟩ | ⟨t1, t2, hW⟩
  · exact sim_bad hI (s_Jround_s m x y i z t1) (s_Dround_s m x y i z t2)
  by_cases hb : inN x 9 ∧ inN y 8 ∧ inN z 17
  · obtain ⟨hx, hy, hz⟩ := hb
    obtain ⟨d, hd, rfl⟩ := inN_of (by decide) hx
    obtain ⟨r, hr, rfl⟩ := inN_of (by decide) hy
    obtain ⟨n, hn, rfl⟩ := inN_of (by decide) hz
    replace hn : n ≤ 16 := by omega
    replace hd : d ≤ 8 := by omega
    by_cases htn : tuneOK m r i n
    · obtain ⟨i, k, rfl, hk, hsz, hik, hg⟩ := htn
      obtain ⟨j0, j2, jg, jt⟩ := tune_j hI hr hk hsz hik hg
      refine sim_ask hI (s_Jround m (m 102) V P hW hR t1 d hd r hr n hn i k j0 hk j2 hik jg _ jt) (fun m1 hq => ?_)
      have g : ∀ c, 98 ≤ c → m1 c = m c := fun c hc => hq.hi c (by omega)
      refine iX_mono (s_Dround m1 V hV (by rw [g 102 (by decide)]; exact e1) P hP (by rw [g 102 (by decide)]; exact e2) (by rw [g 98 (by decide)]; exact t2) d hd r hr n hn i k hk (by rw [g 100 (by decide)]; exact hsz) hik (by rw [g 101 (by decide)]; exact hg)) (fun w m2 h => ?_)
      rw [g 102 (by decide), g 101 (by decide)] at h
      obtain ⟨ew, f, em⟩ := h
      exact ⟨ew, by rw [← em]; exact DQ.a m1 f 0, by rw [← em, jst3]⟩
    · exact sim_lack hI (s_Jround_f m t1 d hd r hr n hn i (hI.row hr) htn) (fun m1 hq => s_Dround_f m1 (by rw [hq.hi 98 (by decide)]; exact t2) d hd r hr n hn i (sz_e (hq.hi 100 (by decide)) (hI.row hr).sz) (tune_e (hq.hi 100 (by decide)) (hq.hi 101 (by decide)) htn))
  · exact sim_bad hI (s_Jround_b m x y i z t1 hb) (s_Dround_b m x y i z t2 hb)
theorem S_best (m : jM) (hI : Inv m) (y i z w : Int32) : SIM mX3_bestRound mX4_bestRound [.int y, .int i, .int z, .int w] m := by
  obtain ⟨h1, h2, ⟨V, P, nn, q, hK, hA⟩, h5, h6, h7, h8⟩ := id hI
  obtain ⟨hV, hP, hR, e1, e2, ht⟩ := id hK
  rcases ht with ⟨t1, t2, -, -⟩ | ⟨t1, t2, hW⟩
  · exact sim_bad hI (s_Jbest_s m y i z w t1) (s_Dbest_s m y i z w t2)
  by_cases hb : inN y 8 ∧ inN z 17 ∧ inN w 2
  · obtain ⟨hy, hz, hw⟩ := hb
    obtain ⟨r, hr, rfl⟩ := inN_of (by decide) hy
    obtain ⟨n, hn, rfl⟩ := inN_of (by decide) hz
    replace hn : n ≤ 16 := by omega
    by_cases htn : tuneOK m r i n
    · obtain ⟨i, k, rfl, hk, hsz, hik, hg⟩ := htn
      obtain ⟨j0, j2, jg, jt⟩ := tune_j hI hr hk hsz hik hg
      refine sim_ask hI (s_Jbest m (m 102) V P hW hR t1 w hw r hr n hn i k j0 hk j2 hik jg _ jt) (fun m1 hq => ?_)
      have g : ∀ c, 98 ≤ c → m1 c = m c := fun c hc => hq.hi c (by omega)
      refine iX_mono (s_Dbest m1 V hV (by rw [g 102 (by decide)]; exact e1) P hP (by rw [g 102 (by decide)]; exact e2) (by rw [g 102 (by decide)]; exact hW.d01) (by rw [g 98 (by decide)]; exact t2) r hr n hn w hw i k hk (by rw [g 100 (by decide)]; exact hsz) hik (by rw [g 101 (by decide)]; exact hg)) (fun w' m2 h => ?_)
      rw [g 102 (by decide), g 101 (by decide)] at h
      obtain ⟨ew, f, em⟩ := h
      exact ⟨ew, by rw [← em]; exact DQ.a m1 f 0, by rw [← em, jst3]⟩
    · exact sim_lack hI (s_Jbest_f m t1 r hr n hn w hw i (hI.row hr) htn) (fun m1 hq => s_Dbest_f m1 (by rw [hq.hi 98 (by decide)]; exact t2) r hr n hn w hw i (sz_e (hq.hi 100 (by decide)) (hI.row hr).sz) (tune_e (hq.hi 100 (by decide)) (hq.hi 101 (by decide)) htn))
  · exact sim_bad hI (s_Jbest_b m y i z w t1 hb) (s_Dbest_b m y i z w t2 hb)
theorem S_shut (m : jM) (hI : Inv m) (x u y i z w : Int32) : SIM mX3_toShut mX4_toShut [.int x, .int u, .int y, .int i, .int z, .int w] m := by
  obtain ⟨h1, h2, ⟨V, P, nn, q, hK, hA⟩, h5, h6, h7, h8⟩ := id hI
  obtain ⟨hV, hP, hR, e1, e2, ht⟩ := id hK
  by_cases hb : inN x P ∧ inN u 9 ∧ inN y 8 ∧ inN z 17 ∧ inN w 2
  · obtain ⟨hx, hu, hy, hz, hw⟩ := hb
    obtain ⟨p, hp, rfl⟩ := inN_of (by omega) hx
    obtain ⟨d, hd, rfl⟩ := inN_of (by decide) hu
    obtain ⟨r, hr, rfl⟩ := inN_of (by decide) hy
    obtain ⟨n, hn, rfl⟩ := inN_of (by decide) hz
    replace hn : n ≤ 16 := by omega
    replace hd : d ≤ 8 := by omega
    obtain ⟨t1, t2, hW⟩ := hK.t (Or.inr (by omega))
    by_cases htn : tuneOK m r i n
    · obtain ⟨i, k, rfl, hk, hsz, hik, hg⟩ := htn
      obtain ⟨j0, j2, jg, jt⟩ := tune_j hI hr hk hsz hik hg
      refine sim_ask hI (s_Jshut m (m 102) V P hW hR t1 p hp d hd w hw r hr n hn i k j0 hk j2 hik jg _ jt) (fun m1 hq => ?_)
      have g : ∀ c, 98 ≤ c → m1 c = m c := fun c hc => hq.hi c (by omega)
      refine iX_mono (s_Dshut m1 V hV (by rw [g 102 (by decide)]; exact e1) P hP (by rw [g 102 (by decide)]; exact e2) p hp d hd r hr n hn w hw i k hk (by rw [g 100 (by decide)]; exact hsz) hik (by rw [g 101 (by decide)]; exact hg)) (fun w' m2 h => ?_)
      rw [g 102 (by decide), g 101 (by decide)] at h
      obtain ⟨ew, f, em⟩ := h
      exact ⟨ew, by rw [← em]; exact DQ.a m1 f 0, by rw [← em, jst3]⟩
    · exact sim_lack hI (s_Jshut_f m (m 102) V P hV hP hR p hp d hd r hr n hn w hw i (hI.row hr) htn) (fun m1 hq => s_Dshut_f m1 P hP (by rw [hq.hi 102 (by decide)]; exact e2) p hp d hd r hr n hn w hw i (sz_e (hq.hi 100 (by decide)) (hI.row hr).sz) (tune_e (hq.hi 100 (by decide)) (hq.hi 101 (by decide)) htn))
  · exact sim_bad hI (s_Jshut_b m (m 102) V P hV hP hR x u y i z w hb) (s_Dshut_b m P hP e2 x u y i z w hb)
theorem S_modes (m : jM) (hI : Inv m) (x u y i z th w : Int32) : SIM mX3_modes mX4_modes [.int x, .int u, .int y, .int i, .int z, .int th, .int w] m := by
  obtain ⟨h1, h2, ⟨V, P, nn, q, hK, hA⟩, h5, h6, h7, h8⟩ := id hI
  obtain ⟨hV, hP, hR, e1, e2, ht⟩ := id hK
  by_cases hb : inN x P ∧ inN u V ∧ inN y 8 ∧ inN z 17 ∧ inN th 21 ∧ inN w 2
  · obtain ⟨hx, hu, hy, hz, hth, hw⟩ := hb
    obtain ⟨p, hp, rfl⟩ := inN_of (by omega) hx
    obtain ⟨s, hs, rfl⟩ := inN_of (by omega) hu
    obtain ⟨r, hr, rfl⟩ := inN_of (by decide) hy
    obtain ⟨n, hn, rfl⟩ := inN_of (by decide) hz
    replace hn : n ≤ 16 := by omega
    obtain ⟨t1, t2, hW⟩ := hK.t (Or.inr (by omega))
    by_cases htn : tuneOK m r i n
    · obtain ⟨i, k, rfl, hk, hsz, hik, hg⟩ := htn
      obtain ⟨j0, j2, jg, jt⟩ := tune_j hI hr hk hsz hik hg
      refine sim_ask hI (s_Jmodes m (m 102) V P hW hR t1 p hp s hs th hth w hw r hr n hn i k j0 hk j2 hik jg _ jt) (fun m1 hq => ?_)
      have g : ∀ c, 98 ≤ c → m1 c = m c := fun c hc => hq.hi c (by omega)
      refine iX_mono (s_Dmodes m1 V hV (by rw [g 102 (by decide)]; exact e1) P hP (by rw [g 102 (by decide)]; exact e2) p hp s hs r hr n hn th w hth hw i k hk (by rw [g 100 (by decide)]; exact hsz) hik (by rw [g 101 (by decide)]; exact hg)) (fun w' m2 h => ?_)
      rw [g 102 (by decide), g 101 (by decide)] at h
      obtain ⟨ew, f, em⟩ := h
      rw [cntD_U _ 128 (by decide), lstD_U _ 128 (by decide)] at ew
      exact ⟨ew, by rw [← em]; exact DQ.a m1 f 0, by rw [← em, jst3]⟩
    · exact sim_lack hI (s_Jmodes_f m (m 102) V P hV hP hR p hp s hs r hr n hn th hth w hw i (hI.row hr) htn) (fun m1 hq => s_Dmodes_f m1 V hV (by rw [hq.hi 102 (by decide)]; exact e1) P hP (by rw [hq.hi 102 (by decide)]; exact e2) p hp s hs r hr n hn th w hth hw i (sz_e (hq.hi 100 (by decide)) (hI.row hr).sz) (tune_e (hq.hi 100 (by decide)) (hq.hi 101 (by decide)) htn))
  · exact sim_bad hI (s_Jmodes_b m (m 102) V P hV hP hR x u y i z th w hb) (s_Dmodes_b m V hV e1 P hP e2 x u y i z th w hb)
theorem S_coughs (m : jM) (hI : Inv m) (x u y i z c w : Int32) : SIM mX3_coughs mX4_coughs [.int x, .int u, .int y, .int i, .int z, .int c, .int w] m := by
  obtain ⟨h1, h2, ⟨V, P, nn, q, hK, hA⟩, h5, h6, h7, h8⟩ := id hI
  obtain ⟨hV, hP, hR, e1, e2, ht⟩ := id hK
  by_cases hb : inN x P ∧ inN u V ∧ inN y 8 ∧ inN z 9 ∧ inN c 11 ∧ inN w 2
  · obtain ⟨hx, hu, hy, hz, hc, hw⟩ := hb
    obtain ⟨p, hp, rfl⟩ := inN_of (by omega) hx
    obtain ⟨s, hs, rfl⟩ := inN_of (by omega) hu
    obtain ⟨r, hr, rfl⟩ := inN_of (by decide) hy
    obtain ⟨n, hn, rfl⟩ := inN_of (by decide) hz
    obtain ⟨c, hc, rfl⟩ := inN_of (by decide) hc
    replace hn : n ≤ 8 := by omega
    replace hc : c ≤ 10 := by omega
    obtain ⟨t1, t2, hW⟩ := hK.t (Or.inr (by omega))
    by_cases htn : tuneOK m r i n
    · obtain ⟨i, k, rfl, hk, hsz, hik, hg⟩ := htn
      obtain ⟨j0, j2, jg, jt⟩ := tune_j hI hr hk hsz hik hg
      refine sim_ask hI (s_Jcough m (m 102) V P hW hR t1 p hp s hs c hc w hw r hr n hn i k j0 hk j2 hik jg _ jt) (fun m1 hq => ?_)
      have g : ∀ c, 98 ≤ c → m1 c = m c := fun c hc => hq.hi c (by omega)
      refine iX_mono (s_Dcough m1 V hV (by rw [g 102 (by decide)]; exact e1) P hP (by rw [g 102 (by decide)]; exact e2) p hp s hs r hr n hn c hc w hw i k hk (by rw [g 100 (by decide)]; exact hsz) hik (by rw [g 101 (by decide)]; exact hg)) (fun w' m2 h => ?_)
      rw [g 102 (by decide), g 101 (by decide)] at h
      obtain ⟨ew, f, em⟩ := h
      exact ⟨ew, by rw [← em]; exact DQ.a m1 f 0, by rw [← em, jst3]⟩
    · exact sim_lack hI (s_Jcough_f m (m 102) V P hV hP hR p hp s hs r hr n hn c hc w hw i (hI.row hr) htn) (fun m1 hq => s_Dcough_f m1 V hV (by rw [hq.hi 102 (by decide)]; exact e1) P hP (by rw [hq.hi 102 (by decide)]; exact e2) p hp s hs r hr n hn c hc w hw i (sz_e (hq.hi 100 (by decide)) (hI.row hr).sz) (tune_e (hq.hi 100 (by decide)) (hq.hi 101 (by decide)) htn))
  · exact sim_bad hI (s_Jcough_b m (m 102) V P hV hP hR x u y i z c w hb) (s_Dcough_b m V hV e1 P hP e2 x u y i z c w hb)
theorem smM_q (m : jM) (f : Nat → Int32) (x : Int32) (g : Nat → Int32) : DQ m (smM m f x g) := by
  unfold smM asdM
  refine ⟨fun c a b d e => ?_, fun h a b => ?_⟩
  · rw [jup_n _ _ e, jst_n _ _ _ a, jup_n _ _ b, jup_n _ _ d]
  · rw [jup_n _ _ (by decide), jst_s, upd_n _ _ b, jup_n _ _ (by decide), jup_n _ _ (by decide)]
theorem sm3 {m m1 : jM} {f : Nat → Int32} {x : Int32} {g' : Nat → Int32} (g : ∀ c, 98 ≤ c → m1 c = m c) (h : m 0 17 = m 98 3) : smM m1 f x g' 98 3 = m 0 17 := by
  unfold smM asdM
  rw [jup_n _ _ (by decide), jst_s, upd_n _ _ (by decide), jup_n _ _ (by decide), jup_n _ _ (by decide), g 98 (by decide)]
  exact h.symm
theorem neg1 {k : Int32} (h1 : -1 ≤ k) (h2 : k < 0) : k = -1 := by
  apply Int32.toInt_inj.mp
  have a := Int32.le_iff_toInt_le.mp h1
  have b := Int32.lt_iff_toInt_lt.mp h2
  rw [show (-1 : Int32).toInt = -1 from rfl] at a ⊢
  rw [show (0 : Int32).toInt = 0 from rfl] at b
  omega
theorem S_song (m : jM) (hI : Inv m) (x z k : Int32) : SIM mX3_song mX4_song [.int x, .int z, .int k] m := by
  obtain ⟨h1, h2, ⟨V, P, nn, q, hK, hA⟩, h5, h6, h7, h8⟩ := id hI
  obtain ⟨hV, hP, hR, e1, e2, ht⟩ := id hK
  by_cases hb : inN x V ∧ inN z 5 ∧ -1 ≤ k ∧ k ≤ z - 1
  · obtain ⟨hx, hz, hk1, hk2⟩ := hb
    obtain ⟨s, hs, rfl⟩ := inN_of (by omega) hx
    obtain ⟨n, hn, rfl⟩ := inN_of (by decide) hz
    replace hn : n ≤ 4 := by omega
    obtain ⟨t1, t2, hW⟩ := hK.t (Or.inl (by omega))
    by_cases hk : k = -1
    · subst hk
      refine sim_ask hI (s_JsongM m (m 102) V P hW hR t1 s hs n hn) (fun m1 hq => ?_)
      have g : ∀ c, 98 ≤ c → m1 c = m c := fun c hc => hq.hi c (by omega)
      refine iX_mono (s_DsongM m1 V hV (by rw [g 102 (by decide)]; exact e1) P hP (by rw [g 102 (by decide)]; exact e2) (by rw [g 102 (by decide)]; exact hW.d01) s hs n hn ⟨hk1, hk2⟩) (fun w m2 h => ?_)
      rw [g 102 (by decide)] at h
      obtain ⟨ew, f, x, g', em⟩ := h
      exact ⟨ew, by rw [← em]; exact smM_q _ _ _ _, by rw [← em]; exact sm3 g h7⟩
    · have hk0 : ¬ k < 0 := fun z => hk (neg1 hk1 z)
      obtain ⟨j, hj, rfl⟩ := nI_of hk0
      have hjn : j < n := by
        have := Int32.le_iff_toInt_le.mp hk2
        rw [nI_toInt hj, nI_m1 (by omega)] at this
        omega
      refine sim_ask hI (s_JsongK m (m 102) V P hW hR t1 s hs n hn j hjn) (fun m1 hq => ?_)
      have g : ∀ c, 98 ≤ c → m1 c = m c := fun c hc => hq.hi c (by omega)
      refine iX_mono (s_DsongK m1 V hV (by rw [g 102 (by decide)]; exact e1) P hP (by rw [g 102 (by decide)]; exact e2) (by rw [g 102 (by decide)]; exact hW.d01) s hs n hn j hjn ⟨hk1, hk2⟩) (fun w m2 h => ?_)
      rw [g 102 (by decide)] at h
      obtain ⟨ew, f, x, g', em⟩ := h
      exact ⟨ew, by rw [← em]; exact smM_q _ _ _ _, by rw [← em]; exact sm3 g h7⟩
  · exact sim_bad hI (s_Jsong_b m (m 102) V P hV hP hR x z k hb) (s_Dsong_b m V hV e1 x z k hb)
