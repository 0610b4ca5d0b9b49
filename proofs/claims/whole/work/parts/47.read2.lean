/-! ===== the class: a text is read, singer by singer, pan by pan ===== -/
theorem kdF_ran {x : Int32} (h : ¬ kdF x = 0) : 1 ≤ kdF x ∧ kdF x ≤ 5 := by
  unfold kdF at h ⊢
  by_cases h1 : x = 112
  · rw [if_pos h1]; decide
  rw [if_neg h1] at h ⊢
  by_cases h2 : x = 99
  · rw [if_pos h2]; decide
  rw [if_neg h2] at h ⊢
  by_cases h3 : x = 113
  · rw [if_pos h3]; decide
  rw [if_neg h3] at h ⊢
  by_cases h4 : x = 109
  · rw [if_pos h4]; decide
  rw [if_neg h4] at h ⊢
  by_cases h5 : x = 100
  · rw [if_pos h5]; decide
  rw [if_neg h5] at h
  exact absurd rfl h
/-- the singers' loop, the pans' loop -/
def IS (m : jM) (t : Nat → Int32) (len : Nat) (R : PR) (k : Nat) : Prop := m 19 = t ∧ ((∃ e q, R = .inl (e, q) ∧ ST m len (.inl (e, q))) ∨ (∃ rd p, k ≤ 3 ∧ ST m len (.inr p) ∧ KR m rd k 0 ∧ R = kitL t len (len + 1 - p) rd k 0 p))
def IP (m : jM) (t : Nat → Int32) (len : Nat) (R : PR) (k : Nat) : Prop := m 19 = t ∧ ((∃ e q, R = .inl (e, q) ∧ ST m len (.inl (e, q))) ∨ (∃ rd p V, V ≤ 3 ∧ k ≤ 5 ∧ ST m len (.inr p) ∧ KR m rd V k ∧ R = kitL t len (len + 1 - p) rd V k p ∧ (0 < k ∨ ¬ (tkT t len p = 1 ∧ tkW t len p = 115))))
/-- behind the pans: no pan is next -/
def IE (m : jM) (t : Nat → Int32) (len : Nat) (R : PR) : Prop := m 19 = t ∧ ((∃ e q, R = .inl (e, q) ∧ ST m len (.inl (e, q))) ∨ (∃ rd p V P, V ≤ 3 ∧ P ≤ 5 ∧ ST m len (.inr p) ∧ KR m rd V P ∧ R = kitL t len (len + 1 - p) rd V P p ∧ kdF (tokC t len p) = 0 ∧ (0 < P ∨ ¬ (tkT t len p = 1 ∧ tkW t len p = 115))))
/-- what a text that has been read leaves -/
def RE (m0 m : jM) (t : Nat → Int32) (len : Nat) (R : PR) : Prop := FR m0 m ∧ m 19 = t ∧ m 18 1 = nI len ∧ ((∃ e q, R = .inl (e, q) ∧ e ≠ 0 ∧ m 18 6 = e ∧ m 18 2 = nI q) ∨ (∃ rd q V P, R = .inr (rd, q) ∧ m 18 6 = 0 ∧ V ≤ 3 ∧ P ≤ 5 ∧ KR m rd V P))
theorem one_115 {t : Nat → Int32} {len p : Nat} : tokC t len p = 115 ↔ (tkT t len p = 1 ∧ tkW t len p = 115) := tokC_c (by decide)
theorem kit_suc {t : Nat → Int32} {len p : Nat} (hp : p ≤ len) {rd : Nat → Int32} {V P : Nat} : kitL t len (len + 1 - p) rd V P p = kitL t len (len - p + 1) rd V P p := by rw [show len + 1 - p = len - p + 1 by omega]
/-- a singer is read: what comes of it -/
theorem sng_step {m m1 : jM} {t : Nat → Int32} {len : Nat} {R : PR} {k p : Nat} {rd : Nat → Int32} (hk : k < 3) (hs : ST m len (.inr p)) (hR : KR m rd k 0) (hE : R = kitL t len (len + 1 - p) rd k 0 p) (h115 : tokC t len p = 115) (ht1 : m1 19 = t) (hs1 : ST m1 len (sR6 t len p)) (e31 : m1 31 = upd (m 31) 2 (nI (k + 1))) (e32 : m1 32 = upd (m 32) k (sA t len p)) (e33 : m1 33 = upd (m 33) k (sB t len p)) (e34 : m1 34 = upd (m 34) k (sC t len p)) (e : ∀ c, 35 ≤ c → c ≤ 41 → m1 c = m c) : IS m1 t len R (k + 1) := by
  have hp : p ≤ len := hs.2.1
  obtain ⟨h1, h2⟩ := one_115.mp h115
  refine ⟨ht1, ?_⟩
  rw [hE, kit_suc hp, kitL_sng h1 h2, sng_rel hk]
  rcases hr : sR6 t len p with ⟨x, q⟩ | q
  · rw [hr] at hs1
    exact Or.inl ⟨x, q, rfl, hs1⟩
  · rw [hr] at hs1
    have hb := sngM_r (rd := rd) (V := k) (P := 0) (by omega) hp (by rw [h1]; decide) ((sng_rel hk).trans (by rw [hr]; rfl))
    refine Or.inr ⟨_, q, by omega, hs1, hR.sng hk _ _ _ e31 e32 e33 e34 e, ?_⟩
    show kitL t len (len - p) _ (k + 1) 0 q = _
    exact kitL_fuel t len _ _ _ _ _ _ (by omega) (by omega) hb.2.2.2.2 (by omega) (by omega)
theorem sng_full {m m1 : jM} {t : Nat → Int32} {len : Nat} {R : PR} {p : Nat} {rd : Nat → Int32} (hs : ST m len (.inr p)) (hE : R = kitL t len (len + 1 - p) rd 3 0 p) (h115 : tokC t len p = 115) (ht1 : m1 19 = t) (hs1 : ST m1 len (.inl (3, p))) : IS m1 t len R (3 + 1) := by
  have hp : p ≤ len := hs.2.1
  obtain ⟨h1, h2⟩ := one_115.mp h115
  refine ⟨ht1, Or.inl ⟨3, p, ?_, hs1⟩⟩
  rw [hE, kit_suc hp, kitL_sng h1 h2]
  rfl
theorem pan_tok {t : Nat → Int32} {len p : Nat} (h : ¬ kdF (tokC t len p) = 0) : tkT t len p = 1 ∧ kdF (tkW t len p) = kdF (tokC t len p) := by
  have h1 : tkT t len p = 1 := Classical.byContradiction fun z => h (kdF_o z)
  exact ⟨h1, (kdF_c h1).symm⟩
theorem pan_step {m m1 : jM} {t : Nat → Int32} {len : Nat} {R : PR} {V k p : Nat} {rd : Nat → Int32} (hV : V ≤ 3) (hk : k < 5) (hs : ST m len (.inr p)) (hR : KR m rd V k) (hE : R = kitL t len (len + 1 - p) rd V k p) (hkd : ¬ kdF (tokC t len p) = 0) (ht1 : m1 19 = t) (hs1 : ST m1 len (pR6 t len V p)) (e31 : m1 31 = upd (m 31) 6 (nI (k + 1))) (e35 : m1 35 = upd (m 35) k (kdF (tokC t len p))) (e36 : m1 36 = upd (m 36) k (pA t len p)) (e37 : m1 37 = upd (m 37) k (pB t len p)) (e39 : m1 39 = upd (m 39) k (pC t len V p)) (e : ∀ c, c = 32 ∨ c = 33 ∨ c = 34 ∨ c = 38 ∨ c = 40 ∨ c = 41 → m1 c = m c) : IP m1 t len R (k + 1) := by
  have hp : p ≤ len := hs.2.1
  obtain ⟨h1, h2⟩ := pan_tok hkd
  refine ⟨ht1, ?_⟩
  rw [hE, kit_suc hp, kitL_pan h1 h2 hkd, pan_rel hk]
  rcases hr : pR6 t len V p with ⟨x, q⟩ | q
  · rw [hr] at hs1
    exact Or.inl ⟨x, q, rfl, hs1⟩
  · rw [hr] at hs1
    have hb := panM_r (rd := rd) (V := V) (P := k) (kd := kdF (tokC t len p)) (by omega) hp (by rw [h1]; decide) ((pan_rel hk).trans (by rw [hr]; rfl))
    obtain ⟨r1, r2, r3⟩ := pan_ran hr
    refine Or.inr ⟨_, q, V, hV, by omega, hs1, hR.pan hV hk _ _ _ _ (kdF_ran hkd) r1 r2 r3 e31 e35 e36 e37 e39 e, ?_, Or.inl (by omega)⟩
    show kitL t len (len - p) _ V (k + 1) q = _
    exact kitL_fuel t len _ _ _ _ _ _ (by omega) (by omega) hb.2.2.2.2 (by omega) (by omega)
theorem pan_full {m m1 : jM} {t : Nat → Int32} {len : Nat} {R : PR} {V p : Nat} {rd : Nat → Int32} (hs : ST m len (.inr p)) (hE : R = kitL t len (len + 1 - p) rd V 5 p) (hkd : ¬ kdF (tokC t len p) = 0) (ht1 : m1 19 = t) (hs1 : ST m1 len (.inl (3, p))) : IP m1 t len R (5 + 1) := by
  have hp : p ≤ len := hs.2.1
  obtain ⟨h1, h2⟩ := pan_tok hkd
  refine ⟨ht1, Or.inl ⟨3, p, ?_, hs1⟩⟩
  rw [hE, kit_suc hp, kitL_pan h1 h2 hkd]
  rfl
theorem kd_not {t : Nat → Int32} {len p : Nat} {c : Int32} (hc : ¬ kdF c = 0) (h : kdF (tokC t len p) = 0) : ¬ (tkT t len p = 1 ∧ tkW t len p = c) := fun z => hc (by rw [← z.2, ← kdF_c z.1]; exact h)
/-- behind the pans: the end, or a fault -/
theorem end_step {m m1 : jM} {t : Nat → Int32} {len : Nat} {R : PR} {V P p : Nat} {rd : Nat → Int32} (hV : V ≤ 3) (hP : P ≤ 5) (hs : ST m len (.inr p)) (hR : KR m1 rd V P) (hE : R = kitL t len (len + 1 - p) rd V P p) (hkd : kdF (tokC t len p) = 0) (h0 : 0 < P ∨ ¬ (tkT t len p = 1 ∧ tkW t len p = 115)) (hs1 : ST m1 len (stC t len (-1) (.inr p))) : (∃ e q, R = .inl (e, q) ∧ e ≠ 0 ∧ m1 18 6 = e ∧ m1 18 2 = nI q) ∨ (∃ rd q V P, R = .inr (rd, q) ∧ m1 18 6 = 0 ∧ V ≤ 3 ∧ P ≤ 5 ∧ KR m1 rd V P) := by
  have hp : p ≤ len := hs.2.1
  rw [hE, kit_suc hp]
  unfold stC at hs1
  dsimp only at hs1
  by_cases h3 : tokC t len p = -1
  · rw [if_pos h3] at hs1
    exact Or.inr ⟨rd, p, V, P, kitL_end (tokC_e.mp h3), hs1.2.2.1, hV, hP, hR⟩
  · rw [if_neg h3] at hs1
    refine Or.inl ⟨1, p, ?_, hs1.2.1, hs1.2.2.1, hs1.2.2.2⟩
    have h3' : ¬ tkT t len p = 3 := fun z => h3 (tokC_e.mpr z)
    by_cases hz : tkT t len p = 1 ∧ tkW t len p = 115
    · rw [kitL_sng hz.1 hz.2]
      have hP0 : 0 < P := h0.elim id (fun w => absurd hz w)
      unfold sngM
      rw [if_pos (Or.inr hP0), if_pos hP0]
      rfl
    · exact kitL_bad h3' (kd_not (by decide) hkd) (kd_not (by decide) hkd) (kd_not (by decide) hkd) (kd_not (by decide) hkd) (kd_not (by decide) hkd) hz
theorem IS.ip {m : jM} {t : Nat → Int32} {len : Nat} {R : PR} {k : Nat} (h : IS m t len R k) (hx : (∃ e q, R = .inl (e, q) ∧ ST m len (.inl (e, q))) ∨ (∃ rd p, k ≤ 3 ∧ ST m len (.inr p) ∧ KR m rd k 0 ∧ R = kitL t len (len + 1 - p) rd k 0 p ∧ ¬ tokC t len p = 115)) : IP m t len R 0 := by
  refine ⟨h.1, ?_⟩
  rcases hx with h | ⟨rd, p, a, b, c, d, e⟩
  · exact Or.inl h
  · exact Or.inr ⟨rd, p, k, a, by omega, b, c, d, Or.inr (fun z => e (one_115.mpr z))⟩
set_option maxHeartbeats 2000000 in
set_option maxRecDepth 20000 in
theorem s_Kbegin (m : jM) : vX mX0_begin [.ref 31] m (fun m1 => (∀ c, c ≠ 31 → c ≠ 38 → c ≠ 40 → c ≠ 41 → m1 c = m c) ∧ m1 31 = upd (upd (upd (upd (m 31) 0 1) 2 0) 6 0) 10 0 ∧ (∀ s, s < 3 → m1 38 s = 0) ∧ (∀ p, p < 5 → m1 40 p = 0) ∧ (∀ p, p < 5 → m1 41 p = -1000000)) := by
  refine jX_of (L := [some (.ref 31)]) 0 rfl rfl (by decide +kernel) rfl ?_
  refine e_aload_n dX0_begin_0 rfl ?_
  refine e_iconst (v := 1) dX0_begin_1 rfl ?_
  refine e_putI dX0_begin_2 lkX0_9 rfl rfl fwX0_0 (Or.inr ⟨rfl, by decide⟩) (fun a1 ha1 => ?_)
  refine e_aload_n dX0_begin_5 rfl ?_
  refine e_iconst (v := 0) dX0_begin_6 rfl ?_
  refine e_putI dX0_begin_7 lkX0_19 rfl rfl fwX0_2 (Or.inl rfl) (fun a2 ha2 => ?_)
  refine e_aload_n dX0_begin_10 rfl ?_
  refine e_iconst (v := 0) dX0_begin_11 rfl ?_
  refine e_putI dX0_begin_12 lkX0_32 rfl rfl fwX0_6 (Or.inl rfl) (fun a3 ha3 => ?_)
  refine e_aload_n dX0_begin_15 rfl ?_
  refine e_iconst (v := 0) dX0_begin_16 rfl ?_
  refine e_putI dX0_begin_17 lkX0_44 rfl rfl fwX0_10 (Or.inl rfl) (fun a4 ha4 => ?_)
  refine e_aload_n dX0_begin_20 rfl ?_
  refine e_getR (o := 7) (b := 38) dX0_begin_21 lkX0_47 rfl rfl (by decide) rfl ?_
  refine e_iconst (v := 0) dX0_begin_24 rfl ?_
  refine e_callSv (n := 2) mArr_fill [.ref 38, .int 0] dX0_begin_25 ckX0_59 rfl (by decide +kernel) rfl rfl (Nat.le_of_ble_eq_true rfl) ⟨Nat.zero_le _, Nat.zero_le _⟩ (s_fill3 a4 38 rfl 0) (fun b1 hb1 => ?_)
  refine e_aload_n dX0_begin_28 rfl ?_
  refine e_getR (o := 9) (b := 40) dX0_begin_29 lkX0_53 rfl rfl (by decide) rfl ?_
  refine e_iconst (v := 0) dX0_begin_32 rfl ?_
  refine e_callSv (n := 2) mArr_fill [.ref 40, .int 0] dX0_begin_33 ckX0_59 rfl (by decide +kernel) rfl rfl (Nat.le_of_ble_eq_true rfl) ⟨Nat.zero_le _, Nat.zero_le _⟩ (s_fill5 b1 40 rfl 0) (fun b2 hb2 => ?_)
  refine e_aload_n dX0_begin_36 rfl ?_
  refine e_getR (o := 10) (b := 41) dX0_begin_37 lkX0_56 rfl rfl (by decide) rfl ?_
  refine e_ldc dX0_begin_40 kkX0_65 ?_
  refine e_callSv (n := 2) mArr_fill [.ref 41, .int (-1000000)] dX0_begin_42 ckX0_59 rfl (by decide +kernel) rfl rfl (Nat.le_of_ble_eq_true rfl) ⟨Nat.zero_le _, Nat.zero_le _⟩ (s_fill5 b2 41 rfl (-1000000)) (fun b3 hb3 => ?_)
  exact e_vret dX0_begin_45 rfl (⟨fun c h1 h2 h3 h4 => by rw [← hb3, jup_n _ _ h4, ← hb2, jup_n _ _ h3, ← hb1, jup_n _ _ h2, ha4, jup_n _ _ h1, ha3, jup_n _ _ h1, ha2, jup_n _ _ h1, ha1, jup_n _ _ h1], by rw [← hb3, jup_n _ _ (by decide), ← hb2, jup_n _ _ (by decide), ← hb1, jup_n _ _ (by decide), ha4, jup_s, ha3, jup_s, ha2, jup_s, ha1, jup_s], fun s hs => by rw [← hb3, jup_n _ _ (by decide), ← hb2, jup_n _ _ (by decide), ← hb1, jup_s, cpy_in0 hs], fun p hp => by rw [← hb3, jup_n _ _ (by decide), ← hb2, jup_s, cpy_in0 hp], fun p hp => by rw [← hb3, jup_s, cpy_in0 hp]⟩)

set_option maxHeartbeats 2000000 in
set_option maxRecDepth 20000 in
theorem s_rdS (m : jM) (len : Nat) (hl : len ≤ 120) (t : Nat → Int32) (ht : m 19 = t) (R : PR) (k p : Nat) (rd : Nat → Int32) (hk : k < 3) (hs : ST m len (.inr p)) (hR : KR m rd k 0) (hE : R = kitL t len (len + 1 - p) rd k 0 p) (h115 : tokC t len p = 115) : vX mX2_readSinger [.ref 18, .ref 31, .int (nI k)] m (fun m1 => IS m1 t len R (k + 1) ∧ FR m m1) := by
  refine jX_of (L := [some (.ref 18), some (.ref 31), some (.int (nI k))]) 0 rfl rfl (by decide +kernel) rfl ?_
  refine e_iload_n dX2_readSinger_0 rfl ?_
  refine e_iconst (v := 3) dX2_readSinger_1 rfl ?_
  refine e_icmp_lt 11 dX2_readSinger_2 (by decide) (fun c2 => ?_) (fun h => absurd ((j_lt (by omega) (by decide) (b := 3)).mpr hk) h)
  refine e_aload_n dX2_readSinger_11 rfl ?_
  refine e_callVv (n := 0) mX2_step [] dX2_readSinger_12 ckX2_39 rfl (by decide +kernel) rfl rfl rfl rfl (Nat.le_of_ble_eq_true rfl) ⟨Nat.zero_le _, Nat.zero_le _⟩ (s_stepT m len (tkQ t len p) hl t ht (tkQ_le hs.2.1).2 hs.1 (by rw [hs.2.2.2.2.1, ht]) hs.2.2.1) (fun q12 hq12 => ?_)
  obtain ⟨hX12, ht12, hr12⟩ := hq12
  refine e_aload_n dX2_readSinger_15 rfl ?_
  refine e_getR (o := 1) (b := 32) dX2_readSinger_16 lkX2_64 rfl rfl (by decide) rfl ?_
  refine e_iload_n dX2_readSinger_19 rfl ?_
  refine e_aload_n dX2_readSinger_20 rfl ?_
  refine e_iconst (v := 0) dX2_readSinger_21 rfl ?_
  refine e_bipush (v := 6) dX2_readSinger_22 rfl ?_
  refine e_callVi (n := 2) mX2_takeNumber [.int 0, .int 6] dX2_readSinger_24 ckX2_46 rfl (by decide +kernel) rfl rfl rfl rfl (Nat.le_of_ble_eq_true rfl) ⟨Nat.zero_le _, Nat.zero_le _⟩ (s_takeNT q12 len hl t ht12 _ hr12 0 6) (fun v24 q24 hq24 => ?_)
  obtain ⟨rfl, hX24, ht24, hr24⟩ := hq24
  refine e_stk (S' := [.int (sA t len p), .int (nI k), .ref 32]) rfl ?_
  refine e_iast dX2_readSinger_27 rfl k rfl (by omega) (by decide) (fun w27 hw27 => ?_)
  have ht27 : w27 19 = t := by rw [hw27, jup_n _ _ (by decide)]; exact ht24
  have hr27 := ST.fr (m1 := w27) hr24 (by rw [hw27, jup_n _ _ (by decide)]) (by rw [hw27, jup_n _ _ (by decide)])
  refine e_aload_n dX2_readSinger_28 rfl ?_
  refine e_bipush (v := 44) dX2_readSinger_29 rfl ?_
  refine e_callVv (n := 1) mX2_take [.int 44] dX2_readSinger_31 ckX2_42 rfl (by decide +kernel) rfl rfl rfl rfl (Nat.le_of_ble_eq_true rfl) ⟨Nat.zero_le _, Nat.zero_le _⟩ (s_takeT w27 len hl t ht27 _ hr27 44) (fun q31 hq31 => ?_)
  obtain ⟨hX31, ht31, hr31⟩ := hq31
  refine e_aload_n dX2_readSinger_34 rfl ?_
  refine e_getR (o := 2) (b := 33) dX2_readSinger_35 lkX2_67 rfl rfl (by decide) rfl ?_
  refine e_iload_n dX2_readSinger_38 rfl ?_
  refine e_aload_n dX2_readSinger_39 rfl ?_
  refine e_aload_n dX2_readSinger_40 rfl ?_
  refine e_getR (o := 1) (b := 32) dX2_readSinger_41 lkX2_64 rfl rfl (by decide) rfl ?_
  refine e_iload_n dX2_readSinger_44 rfl ?_
  refine e_iald dX2_readSinger_45 rfl k rfl (by omega) (by decide) ?_
  rw [show q31 32 k = sA t len p from by rw [hX31.1 32 (by decide), hw27, jup_s, upd_s]]
  refine e_bipush (v := 6) dX2_readSinger_46 rfl ?_
  refine e_callVi (n := 2) mX2_takeNumber [.int (sA t len p), .int 6] dX2_readSinger_48 ckX2_46 rfl (by decide +kernel) rfl rfl rfl rfl (Nat.le_of_ble_eq_true rfl) ⟨Nat.zero_le _, Nat.zero_le _⟩ (s_takeNT q31 len hl t ht31 _ hr31 (sA t len p) 6) (fun v48 q48 hq48 => ?_)
  obtain ⟨rfl, hX48, ht48, hr48⟩ := hq48
  refine e_stk (S' := [.int (sB t len p), .int (nI k), .ref 33]) rfl ?_
  refine e_iast dX2_readSinger_51 rfl k rfl (by omega) (by decide) (fun w51 hw51 => ?_)
  have ht51 : w51 19 = t := by rw [hw51, jup_n _ _ (by decide)]; exact ht48
  have hr51 := ST.fr (m1 := w51) hr48 (by rw [hw51, jup_n _ _ (by decide)]) (by rw [hw51, jup_n _ _ (by decide)])
  refine e_aload_n dX2_readSinger_52 rfl ?_
  refine e_bipush (v := 44) dX2_readSinger_53 rfl ?_
  refine e_callVv (n := 1) mX2_take [.int 44] dX2_readSinger_55 ckX2_42 rfl (by decide +kernel) rfl rfl rfl rfl (Nat.le_of_ble_eq_true rfl) ⟨Nat.zero_le _, Nat.zero_le _⟩ (s_takeT w51 len hl t ht51 _ hr51 44) (fun q55 hq55 => ?_)
  obtain ⟨hX55, ht55, hr55⟩ := hq55
  refine e_aload_n dX2_readSinger_58 rfl ?_
  refine e_getR (o := 3) (b := 34) dX2_readSinger_59 lkX2_70 rfl rfl (by decide) rfl ?_
  refine e_iload_n dX2_readSinger_62 rfl ?_
  refine e_aload_n dX2_readSinger_63 rfl ?_
  refine e_iconst (v := 1) dX2_readSinger_64 rfl ?_
  refine e_bipush (v := 9) dX2_readSinger_65 rfl ?_
  refine e_callVi (n := 2) mX2_takeNumber [.int 1, .int 9] dX2_readSinger_67 ckX2_46 rfl (by decide +kernel) rfl rfl rfl rfl (Nat.le_of_ble_eq_true rfl) ⟨Nat.zero_le _, Nat.zero_le _⟩ (s_takeNT q55 len hl t ht55 _ hr55 1 9) (fun v67 q67 hq67 => ?_)
  obtain ⟨rfl, hX67, ht67, hr67⟩ := hq67
  refine e_stk (S' := [.int (sC t len p), .int (nI k), .ref 34]) rfl ?_
  refine e_iast dX2_readSinger_70 rfl k rfl (by omega) (by decide) (fun w70 hw70 => ?_)
  have ht70 : w70 19 = t := by rw [hw70, jup_n _ _ (by decide)]; exact ht67
  have hr70 := ST.fr (m1 := w70) hr67 (by rw [hw70, jup_n _ _ (by decide)]) (by rw [hw70, jup_n _ _ (by decide)])
  refine e_aload_n dX2_readSinger_71 rfl ?_
  refine e_bipush (v := 59) dX2_readSinger_72 rfl ?_
  refine e_callVv (n := 1) mX2_take [.int 59] dX2_readSinger_74 ckX2_42 rfl (by decide +kernel) rfl rfl rfl rfl (Nat.le_of_ble_eq_true rfl) ⟨Nat.zero_le _, Nat.zero_le _⟩ (s_takeT w70 len hl t ht70 _ hr70 59) (fun q74 hq74 => ?_)
  obtain ⟨hX74, ht74, hr74⟩ := hq74
  refine e_aload_n dX2_readSinger_77 rfl ?_
  refine e_iload_n dX2_readSinger_78 rfl ?_
  refine e_iconst (v := 1) dX2_readSinger_79 rfl ?_
  refine e_iadd dX2_readSinger_80 ?_
  rw [show (nI k) + 1 = nI (k + 1) from nI_1 k]
  refine e_putI dX2_readSinger_81 lkX2_73 rfl rfl fwX0_2 (Or.inl rfl) (fun w81 hw81 => ?_)
  have ht81 : w81 19 = t := by rw [hw81, jup_n _ _ (by decide)]; exact ht74
  have hr81 := ST.fr (m1 := w81) hr74 (by rw [hw81, jup_n _ _ (by decide)]) (by rw [hw81, jup_n _ _ (by decide)])
  exact e_vret dX2_readSinger_84 rfl (by
        refine ⟨sng_step (m := m) hk hs hR hE h115 ht81 hr81 (by rw [hw81, jup_s, hX74.1 31 (by decide), hw70, jup_n _ _ (by decide), hX67.1 31 (by decide), hX55.1 31 (by decide), hw51, jup_n _ _ (by decide), hX48.1 31 (by decide), hX31.1 31 (by decide), hw27, jup_n _ _ (by decide), hX24.1 31 (by decide), hX12.1 31 (by decide)]) (by rw [hw81, jup_n _ _ (by decide), hX74.1 32 (by decide), hw70, jup_n _ _ (by decide), hX67.1 32 (by decide), hX55.1 32 (by decide), hw51, jup_n _ _ (by decide), hX48.1 32 (by decide), hX31.1 32 (by decide), hw27, jup_s, hX24.1 32 (by decide), hX12.1 32 (by decide)]) (by rw [hw81, jup_n _ _ (by decide), hX74.1 33 (by decide), hw70, jup_n _ _ (by decide), hX67.1 33 (by decide), hX55.1 33 (by decide), hw51, jup_s, hX48.1 33 (by decide), hX31.1 33 (by decide), hw27, jup_n _ _ (by decide), hX24.1 33 (by decide), hX12.1 33 (by decide)]) (by rw [hw81, jup_n _ _ (by decide), hX74.1 34 (by decide), hw70, jup_s, hX67.1 34 (by decide), hX55.1 34 (by decide), hw51, jup_n _ _ (by decide), hX48.1 34 (by decide), hX31.1 34 (by decide), hw27, jup_n _ _ (by decide), hX24.1 34 (by decide), hX12.1 34 (by decide)]) (fun c a b => by rw [hw81, jup_n _ _ (by omega), hX74.1 c (by omega), hw70, jup_n _ _ (by omega), hX67.1 c (by omega), hX55.1 c (by omega), hw51, jup_n _ _ (by omega), hX48.1 c (by omega), hX31.1 c (by omega), hw27, jup_n _ _ (by omega), hX24.1 c (by omega), hX12.1 c (by omega)]), fun c a b => by rw [hw81, jup_n _ _ (by omega), hX74.1 c a, hw70, jup_n _ _ (by omega), hX67.1 c a, hX55.1 c a, hw51, jup_n _ _ (by omega), hX48.1 c a, hX31.1 c a, hw27, jup_n _ _ (by omega), hX24.1 c a, hX12.1 c a]⟩)

set_option maxHeartbeats 2000000 in
set_option maxRecDepth 20000 in
theorem s_rdS3 (m : jM) (len : Nat) (hl : len ≤ 120) (t : Nat → Int32) (ht : m 19 = t) (R : PR) (p : Nat) (rd : Nat → Int32) (hs : ST m len (.inr p)) (hE : R = kitL t len (len + 1 - p) rd 3 0 p) (h115 : tokC t len p = 115) : vX mX2_readSinger [.ref 18, .ref 31, .int (nI 3)] m (fun m1 => IS m1 t len R (3 + 1) ∧ FR m m1) := by
  refine jX_of (L := [some (.ref 18), some (.ref 31), some (.int (nI 3))]) 0 rfl rfl (by decide +kernel) rfl ?_
  refine e_iload_n dX2_readSinger_0 rfl ?_
  refine e_iconst (v := 3) dX2_readSinger_1 rfl ?_
  refine e_icmp_lt 11 dX2_readSinger_2 (by decide) (fun h => absurd h (by decide)) (fun c2 => ?_)
  refine e_aload_n dX2_readSinger_5 rfl ?_
  refine e_iconst (v := 3) dX2_readSinger_6 rfl ?_
  refine e_putI dX2_readSinger_7 lkX2_31 rfl rfl fwX2_6 (Or.inl rfl) (fun w7 hw7 => ?_)
  exact e_vret dX2_readSinger_10 rfl (⟨sng_full hs hE h115 (by rw [hw7, jup_n _ _ (by decide)]; exact ht) ⟨by rw [hw7, jup_s, upd_n _ _ (by decide)]; exact hs.1, by decide, by rw [hw7, jup_s, upd_s], by rw [hw7, jup_s, upd_n _ _ (by decide)]; exact hs.2.2.2.1⟩, fun c a _ => by rw [hw7, jup_n _ _ a]⟩)

set_option maxHeartbeats 2000000 in
set_option maxRecDepth 20000 in
theorem s_rdP (m : jM) (len : Nat) (hl : len ≤ 120) (t : Nat → Int32) (ht : m 19 = t) (R : PR) (V k p : Nat) (rd : Nat → Int32) (hV : V ≤ 3) (hk : k < 5) (hs : ST m len (.inr p)) (hR : KR m rd V k) (hE : R = kitL t len (len + 1 - p) rd V k p) (hkd : ¬ kdF (tokC t len p) = 0) : vX mX2_readPan [.ref 18, .ref 31, .int (nI k)] m (fun m1 => IP m1 t len R (k + 1) ∧ FR m m1) := by
  refine jX_of (L := [some (.ref 18), some (.ref 31), some (.int (nI k))]) 0 rfl rfl (by decide +kernel) rfl ?_
  refine e_iload_n dX2_readPan_0 rfl ?_
  refine e_iconst (v := 5) dX2_readPan_1 rfl ?_
  refine e_icmp_lt 11 dX2_readPan_2 (by decide) (fun c2 => ?_) (fun h => absurd ((j_lt (by omega) (by decide) (b := 5)).mpr hk) h)
  refine e_aload_n dX2_readPan_11 rfl ?_
  refine e_getR (o := 4) (b := 35) dX2_readPan_12 lkX2_76 rfl rfl (by decide) rfl ?_
  refine e_iload_n dX2_readPan_15 rfl ?_
  refine e_aload_n dX2_readPan_16 rfl ?_
  refine e_getI dX2_readPan_17 lkX2_25 rfl rfl ?_
  rw [show m 18 4 = tokC t len p from by rw [hs.2.2.2.2.2.1, ht]]
  refine e_callSi (n := 1) mX2_kindOf [.int (tokC t len p)] dX2_readPan_20 ckX2_57 rfl (by decide +kernel) rfl rfl (Nat.le_of_ble_eq_true rfl) ⟨Nat.zero_le _, Nat.zero_le _⟩ (s_kindOf m (tokC t len p)) (fun v20 m1 hm1 => ?_)
  obtain ⟨rfl, rfl⟩ := hm1
  refine e_iast dX2_readPan_23 rfl k rfl (by omega) (by decide) (fun w23 hw23 => ?_)
  have ht23 : w23 19 = t := by rw [hw23, jup_n _ _ (by decide)]; exact ht
  have hr23 := ST.fr (m1 := w23) hs (by rw [hw23, jup_n _ _ (by decide)]) (by rw [hw23, jup_n _ _ (by decide)])
  refine e_aload_n dX2_readPan_24 rfl ?_
  refine e_callVv (n := 0) mX2_step [] dX2_readPan_25 ckX2_39 rfl (by decide +kernel) rfl rfl rfl rfl (Nat.le_of_ble_eq_true rfl) ⟨Nat.zero_le _, Nat.zero_le _⟩ (s_stepT w23 len (tkQ t len p) hl t ht23 (tkQ_le hr23.2.1).2 hr23.1 (by rw [hr23.2.2.2.2.1, ht23]) hr23.2.2.1) (fun q25 hq25 => ?_)
  obtain ⟨hX25, ht25, hr25⟩ := hq25
  refine e_aload_n dX2_readPan_28 rfl ?_
  refine e_getR (o := 5) (b := 36) dX2_readPan_29 lkX2_79 rfl rfl (by decide) rfl ?_
  refine e_iload_n dX2_readPan_32 rfl ?_
  refine e_aload_n dX2_readPan_33 rfl ?_
  refine e_iconst (v := 0) dX2_readPan_34 rfl ?_
  refine e_bipush (v := 127) dX2_readPan_35 rfl ?_
  refine e_callVi (n := 2) mX2_takeNumber [.int 0, .int 127] dX2_readPan_37 ckX2_46 rfl (by decide +kernel) rfl rfl rfl rfl (Nat.le_of_ble_eq_true rfl) ⟨Nat.zero_le _, Nat.zero_le _⟩ (s_takeNT q25 len hl t ht25 _ hr25 0 127) (fun v37 q37 hq37 => ?_)
  obtain ⟨rfl, hX37, ht37, hr37⟩ := hq37
  refine e_stk (S' := [.int (pA t len p), .int (nI k), .ref 36]) rfl ?_
  refine e_iast dX2_readPan_40 rfl k rfl (by omega) (by decide) (fun w40 hw40 => ?_)
  have ht40 : w40 19 = t := by rw [hw40, jup_n _ _ (by decide)]; exact ht37
  have hr40 := ST.fr (m1 := w40) hr37 (by rw [hw40, jup_n _ _ (by decide)]) (by rw [hw40, jup_n _ _ (by decide)])
  refine e_aload_n dX2_readPan_41 rfl ?_
  refine e_bipush (v := 44) dX2_readPan_42 rfl ?_
  refine e_callVv (n := 1) mX2_take [.int 44] dX2_readPan_44 ckX2_42 rfl (by decide +kernel) rfl rfl rfl rfl (Nat.le_of_ble_eq_true rfl) ⟨Nat.zero_le _, Nat.zero_le _⟩ (s_takeT w40 len hl t ht40 _ hr40 44) (fun q44 hq44 => ?_)
  obtain ⟨hX44, ht44, hr44⟩ := hq44
  refine e_aload_n dX2_readPan_47 rfl ?_
  refine e_getR (o := 6) (b := 37) dX2_readPan_48 lkX2_82 rfl rfl (by decide) rfl ?_
  refine e_iload_n dX2_readPan_51 rfl ?_
  refine e_aload_n dX2_readPan_52 rfl ?_
  refine e_iconst (v := 1) dX2_readPan_53 rfl ?_
  refine e_bipush (v := 20) dX2_readPan_54 rfl ?_
  refine e_callVi (n := 2) mX2_takeNumber [.int 1, .int 20] dX2_readPan_56 ckX2_46 rfl (by decide +kernel) rfl rfl rfl rfl (Nat.le_of_ble_eq_true rfl) ⟨Nat.zero_le _, Nat.zero_le _⟩ (s_takeNT q44 len hl t ht44 _ hr44 1 20) (fun v56 q56 hq56 => ?_)
  obtain ⟨rfl, hX56, ht56, hr56⟩ := hq56
  refine e_stk (S' := [.int (pB t len p), .int (nI k), .ref 37]) rfl ?_
  refine e_iast dX2_readPan_59 rfl k rfl (by omega) (by decide) (fun w59 hw59 => ?_)
  have ht59 : w59 19 = t := by rw [hw59, jup_n _ _ (by decide)]; exact ht56
  have hr59 := ST.fr (m1 := w59) hr56 (by rw [hw59, jup_n _ _ (by decide)]) (by rw [hw59, jup_n _ _ (by decide)])
  refine e_aload_n dX2_readPan_60 rfl ?_
  refine e_bipush (v := 44) dX2_readPan_61 rfl ?_
  refine e_callVv (n := 1) mX2_take [.int 44] dX2_readPan_63 ckX2_42 rfl (by decide +kernel) rfl rfl rfl rfl (Nat.le_of_ble_eq_true rfl) ⟨Nat.zero_le _, Nat.zero_le _⟩ (s_takeT w59 len hl t ht59 _ hr59 44) (fun q63 hq63 => ?_)
  obtain ⟨hX63, ht63, hr63⟩ := hq63
  refine e_aload_n dX2_readPan_66 rfl ?_
  refine e_getR (o := 8) (b := 39) dX2_readPan_67 lkX2_85 rfl rfl (by decide) rfl ?_
  refine e_iload_n dX2_readPan_70 rfl ?_
  refine e_aload_n dX2_readPan_71 rfl ?_
  refine e_iconst (v := 0) dX2_readPan_72 rfl ?_
  refine e_iconst (v := 1) dX2_readPan_73 rfl ?_
  refine e_aload_n dX2_readPan_74 rfl ?_
  refine e_getI dX2_readPan_75 lkX2_73 rfl rfl ?_
  rw [show q63 31 2 = nI V from by rw [hX63.1 31 (by decide), hw59, jup_n _ _ (by decide), hX56.1 31 (by decide), hX44.1 31 (by decide), hw40, jup_n _ _ (by decide), hX37.1 31 (by decide), hX25.1 31 (by decide), hw23, jup_n _ _ (by decide)]; exact hR.1.vs]
  refine e_ishl dX2_readPan_78 ?_
  refine e_iconst (v := 1) dX2_readPan_79 rfl ?_
  refine e_isub dX2_readPan_80 ?_
  rw [show (1 <<< ((nI V) &&& 31)) - 1 = nI (2 ^ V - 1) from shV1 V (by omega)]
  refine e_callVi (n := 2) mX2_takeNumber [.int 0, .int (nI (2 ^ V - 1))] dX2_readPan_81 ckX2_46 rfl (by decide +kernel) rfl rfl rfl rfl (Nat.le_of_ble_eq_true rfl) ⟨Nat.zero_le _, Nat.zero_le _⟩ (s_takeNT q63 len hl t ht63 _ hr63 0 (nI (2 ^ V - 1))) (fun v81 q81 hq81 => ?_)
  obtain ⟨rfl, hX81, ht81, hr81⟩ := hq81
  refine e_stk (S' := [.int (pC t len V p), .int (nI k), .ref 39]) rfl ?_
  refine e_iast dX2_readPan_84 rfl k rfl (by omega) (by decide) (fun w84 hw84 => ?_)
  have ht84 : w84 19 = t := by rw [hw84, jup_n _ _ (by decide)]; exact ht81
  have hr84 := ST.fr (m1 := w84) hr81 (by rw [hw84, jup_n _ _ (by decide)]) (by rw [hw84, jup_n _ _ (by decide)])
  refine e_aload_n dX2_readPan_85 rfl ?_
  refine e_bipush (v := 59) dX2_readPan_86 rfl ?_
  refine e_callVv (n := 1) mX2_take [.int 59] dX2_readPan_88 ckX2_42 rfl (by decide +kernel) rfl rfl rfl rfl (Nat.le_of_ble_eq_true rfl) ⟨Nat.zero_le _, Nat.zero_le _⟩ (s_takeT w84 len hl t ht84 _ hr84 59) (fun q88 hq88 => ?_)
  obtain ⟨hX88, ht88, hr88⟩ := hq88
  refine e_aload_n dX2_readPan_91 rfl ?_
  refine e_iload_n dX2_readPan_92 rfl ?_
  refine e_iconst (v := 1) dX2_readPan_93 rfl ?_
  refine e_iadd dX2_readPan_94 ?_
  rw [show (nI k) + 1 = nI (k + 1) from nI_1 k]
  refine e_putI dX2_readPan_95 lkX2_88 rfl rfl fwX0_6 (Or.inl rfl) (fun w95 hw95 => ?_)
  have ht95 : w95 19 = t := by rw [hw95, jup_n _ _ (by decide)]; exact ht88
  have hr95 := ST.fr (m1 := w95) hr88 (by rw [hw95, jup_n _ _ (by decide)]) (by rw [hw95, jup_n _ _ (by decide)])
  exact e_vret dX2_readPan_98 rfl (by
        refine ⟨pan_step (m := m) hV hk hs hR hE hkd ht95 hr95 (by rw [hw95, jup_s, hX88.1 31 (by decide), hw84, jup_n _ _ (by decide), hX81.1 31 (by decide), hX63.1 31 (by decide), hw59, jup_n _ _ (by decide), hX56.1 31 (by decide), hX44.1 31 (by decide), hw40, jup_n _ _ (by decide), hX37.1 31 (by decide), hX25.1 31 (by decide), hw23, jup_n _ _ (by decide)]) (by rw [hw95, jup_n _ _ (by decide), hX88.1 35 (by decide), hw84, jup_n _ _ (by decide), hX81.1 35 (by decide), hX63.1 35 (by decide), hw59, jup_n _ _ (by decide), hX56.1 35 (by decide), hX44.1 35 (by decide), hw40, jup_n _ _ (by decide), hX37.1 35 (by decide), hX25.1 35 (by decide), hw23, jup_s]) (by rw [hw95, jup_n _ _ (by decide), hX88.1 36 (by decide), hw84, jup_n _ _ (by decide), hX81.1 36 (by decide), hX63.1 36 (by decide), hw59, jup_n _ _ (by decide), hX56.1 36 (by decide), hX44.1 36 (by decide), hw40, jup_s, hX37.1 36 (by decide), hX25.1 36 (by decide), hw23, jup_n _ _ (by decide)]) (by rw [hw95, jup_n _ _ (by decide), hX88.1 37 (by decide), hw84, jup_n _ _ (by decide), hX81.1 37 (by decide), hX63.1 37 (by decide), hw59, jup_s, hX56.1 37 (by decide), hX44.1 37 (by decide), hw40, jup_n _ _ (by decide), hX37.1 37 (by decide), hX25.1 37 (by decide), hw23, jup_n _ _ (by decide)]) (by rw [hw95, jup_n _ _ (by decide), hX88.1 39 (by decide), hw84, jup_s, hX81.1 39 (by decide), hX63.1 39 (by decide), hw59, jup_n _ _ (by decide), hX56.1 39 (by decide), hX44.1 39 (by decide), hw40, jup_n _ _ (by decide), hX37.1 39 (by decide), hX25.1 39 (by decide), hw23, jup_n _ _ (by decide)]) (fun c a => by rw [hw95, jup_n _ _ (by omega), hX88.1 c (by omega), hw84, jup_n _ _ (by omega), hX81.1 c (by omega), hX63.1 c (by omega), hw59, jup_n _ _ (by omega), hX56.1 c (by omega), hX44.1 c (by omega), hw40, jup_n _ _ (by omega), hX37.1 c (by omega), hX25.1 c (by omega), hw23, jup_n _ _ (by omega)]), fun c a b => by rw [hw95, jup_n _ _ (by omega), hX88.1 c a, hw84, jup_n _ _ (by omega), hX81.1 c a, hX63.1 c a, hw59, jup_n _ _ (by omega), hX56.1 c a, hX44.1 c a, hw40, jup_n _ _ (by omega), hX37.1 c a, hX25.1 c a, hw23, jup_n _ _ (by omega)]⟩)

set_option maxHeartbeats 2000000 in
set_option maxRecDepth 20000 in
theorem s_rdP5 (m : jM) (len : Nat) (hl : len ≤ 120) (t : Nat → Int32) (ht : m 19 = t) (R : PR) (V p : Nat) (rd : Nat → Int32) (hs : ST m len (.inr p)) (hE : R = kitL t len (len + 1 - p) rd V 5 p) (hkd : ¬ kdF (tokC t len p) = 0) : vX mX2_readPan [.ref 18, .ref 31, .int (nI 5)] m (fun m1 => IP m1 t len R (5 + 1) ∧ FR m m1) := by
  refine jX_of (L := [some (.ref 18), some (.ref 31), some (.int (nI 5))]) 0 rfl rfl (by decide +kernel) rfl ?_
  refine e_iload_n dX2_readPan_0 rfl ?_
  refine e_iconst (v := 5) dX2_readPan_1 rfl ?_
  refine e_icmp_lt 11 dX2_readPan_2 (by decide) (fun h => absurd h (by decide)) (fun c2 => ?_)
  refine e_aload_n dX2_readPan_5 rfl ?_
  refine e_iconst (v := 3) dX2_readPan_6 rfl ?_
  refine e_putI dX2_readPan_7 lkX2_31 rfl rfl fwX2_6 (Or.inl rfl) (fun w7 hw7 => ?_)
  exact e_vret dX2_readPan_10 rfl (⟨pan_full hs hE hkd (by rw [hw7, jup_n _ _ (by decide)]; exact ht) ⟨by rw [hw7, jup_s, upd_n _ _ (by decide)]; exact hs.1, by decide, by rw [hw7, jup_s, upd_s], by rw [hw7, jup_s, upd_n _ _ (by decide)]; exact hs.2.2.2.1⟩, fun c a _ => by rw [hw7, jup_n _ _ a]⟩)

theorem s_rdSA (m : jM) (len : Nat) (hl : len ≤ 120) (t : Nat → Int32) (ht : m 19 = t) (R : PR) (k p : Nat) (rd : Nat → Int32) (hk : k ≤ 3) (hs : ST m len (.inr p)) (hR : KR m rd k 0) (hE : R = kitL t len (len + 1 - p) rd k 0 p) (h115 : tokC t len p = 115) : vX mX2_readSinger [.ref 18, .ref 31, .int (nI k)] m (fun m1 => IS m1 t len R (k + 1) ∧ FR m m1) := by
  by_cases h : k < 3
  · exact s_rdS m len hl t ht R k p rd h hs hR hE h115
  · obtain rfl : k = 3 := by omega
    exact s_rdS3 m len hl t ht R p rd hs hE h115
theorem s_rdPA (m : jM) (len : Nat) (hl : len ≤ 120) (t : Nat → Int32) (ht : m 19 = t) (R : PR) (V k p : Nat) (rd : Nat → Int32) (hV : V ≤ 3) (hk : k ≤ 5) (hs : ST m len (.inr p)) (hR : KR m rd V k) (hE : R = kitL t len (len + 1 - p) rd V k p) (hkd : ¬ kdF (tokC t len p) = 0) : vX mX2_readPan [.ref 18, .ref 31, .int (nI k)] m (fun m1 => IP m1 t len R (k + 1) ∧ FR m m1) := by
  by_cases h : k < 5
  · exact s_rdP m len hl t ht R V k p rd hV h hs hR hE hkd
  · obtain rfl : k = 5 := by omega
    exact s_rdP5 m len hl t ht R V p rd hs hE hkd

set_option maxHeartbeats 2000000 in
set_option maxRecDepth 20000 in
theorem s_ri112 (m0 m : jM) (len : Nat) (hl : len ≤ 120) (t : Nat → Int32) (R : PR) (hF : FR m0 m) (hE : IE m t len R) (k : Int32) : jE (jmd mX2_readInto (vP (fun m1 => RE m0 m1 t len R))) mX2_readInto 112 [some (.ref 18), some (.ref 31), some (.int k)] [] m := by
  obtain ⟨ht, ⟨e, q, hRe, hs⟩ | ⟨rd, p, V, P, hV, hP, hs, hR, hE2, hkd, h0⟩⟩ := hE
  · have hft := True.intro
    refine e_aload_n dX2_readInto_112 rfl ?_
    refine e_iconst (v := -1) dX2_readInto_113 rfl ?_
    refine e_callVv (n := 1) mX2_take [.int (-1)] dX2_readInto_114 ckX2_42 rfl (by decide +kernel) rfl rfl rfl rfl (Nat.le_of_ble_eq_true rfl) ⟨Nat.zero_le _, Nat.zero_le _⟩ (s_takeT m len hl t ht _ hs (-1)) (fun mz hmz => ?_)
    obtain ⟨hX, ht1, hr1⟩ := hmz
    exact e_vret dX2_readInto_117 rfl (⟨hF.tr hX.fr, ht1, hr1.1, by first | exact Or.inl ⟨e, q, hRe, hr1.2.1, hr1.2.2.1, hr1.2.2.2⟩ | exact end_step hV hP hs (hR.fr (fun c a b => hX.1 c (by omega))) hE2 hkd h0 hr1⟩)
  · have hff := True.intro
    refine e_aload_n dX2_readInto_112 rfl ?_
    refine e_iconst (v := -1) dX2_readInto_113 rfl ?_
    refine e_callVv (n := 1) mX2_take [.int (-1)] dX2_readInto_114 ckX2_42 rfl (by decide +kernel) rfl rfl rfl rfl (Nat.le_of_ble_eq_true rfl) ⟨Nat.zero_le _, Nat.zero_le _⟩ (s_takeT m len hl t ht _ hs (-1)) (fun mz hmz => ?_)
    obtain ⟨hX, ht1, hr1⟩ := hmz
    exact e_vret dX2_readInto_117 rfl (⟨hF.tr hX.fr, ht1, hr1.1, by first | exact Or.inl ⟨e, q, hRe, hr1.2.1, hr1.2.2.1, hr1.2.2.2⟩ | exact end_step hV hP hs (hR.fr (fun c a b => hX.1 c (by omega))) hE2 hkd h0 hr1⟩)

set_option maxHeartbeats 2000000 in
set_option maxRecDepth 20000 in
theorem s_ri76 (m0 m : jM) (len : Nat) (hl : len ≤ 120) (t : Nat → Int32) (R : PR) (hF : FR m0 m) (hI0 : IP m t len R 0) (k0 : Int32) : jE (jmd mX2_readInto (vP (fun m1 => RE m0 m1 t len R))) mX2_readInto 76 [some (.ref 18), some (.ref 31), some (.int k0)] [] m := by
  refine e_iconst (v := 0) dX2_readInto_76 rfl ?_
  refine e_istore_n (L' := [some (.ref 18), some (.ref 31), some (.int 0)]) dX2_readInto_77 (Nat.le_of_ble_eq_true rfl) (Nat.le_of_ble_eq_true rfl) (jnl_at (i := 1) rfl) rfl ?_
  refine e_loopS (σ := Unit) 78 6 (fun k _ => [some (.ref 18), some (.ref 31), some (.int (nI k))]) (fun k _ mm => FR m0 mm ∧ IP mm t len R k) 0 () (by decide) rfl (⟨hF, hI0⟩) ?_ ?_
  · intro _ mm hI
    show jE _ _ 78 [some (.ref 18), some (.ref 31), some (.int (nI 6))] [] mm
    obtain ⟨hFm, hIm⟩ := hI
    refine e_iload_n dX2_readInto_78 rfl ?_
    refine e_iconst (v := 5) dX2_readInto_79 rfl ?_
    refine e_icmp_gt 112 dX2_readInto_80 (by decide) (fun c80 => ?_) (fun h => absurd (by decide : (5 : Int32) < nI 6) h)
    refine s_ri112 m0 mm len hl t R hFm ⟨hIm.1, ?_⟩ _
    rcases hIm.2 with hx | ⟨rd, p, V, _, h6, _⟩
    · exact Or.inl hx
    · exact absurd h6 (by decide)
  · intro k hk_ _ mm hI ih
    show jE _ _ 78 [some (.ref 18), some (.ref 31), some (.int (nI k))] [] mm
    obtain ⟨hFm, hIm⟩ := hI
    have hk6 := hk_
    refine e_iload_n dX2_readInto_78 rfl ?_
    refine e_iconst (v := 5) dX2_readInto_79 rfl ?_
    refine e_icmp_gt 112 dX2_readInto_80 (by decide) (fun h => absurd ((j_lt (a := 5) (b := k) (by decide) (by omega)).mp h) (by omega)) (fun c80 => ?_)
    obtain ⟨ht, ⟨e, q, hRe, hs⟩ | ⟨rd, p, V, hV, hk5, hs, hR, hE2, h0⟩⟩ := hIm
    · have hft := True.intro
      refine e_aload_n dX2_readInto_83 rfl ?_
      refine e_getI dX2_readInto_84 lkX2_31 rfl rfl ?_
      rw [show mm 18 6 = e from hs.2.2.1]
      refine e_if_ne 112 dX2_readInto_87 (by decide) (fun c87 => ?_) (fun h => absurd h hs.2.1)
      exact s_ri112 m0 mm len hl t R hFm ⟨ht, Or.inl ⟨e, q, hRe, hs⟩⟩ _
    · have hff := True.intro
      refine e_aload_n dX2_readInto_83 rfl ?_
      refine e_getI dX2_readInto_84 lkX2_31 rfl rfl ?_
      rw [show mm 18 6 = 0 from hs.2.2.1]
      refine e_if_ne 112 dX2_readInto_87 (by decide) (fun h => absurd h (by decide)) (fun c87 => ?_)
      refine e_aload_n dX2_readInto_90 rfl ?_
      refine e_getI dX2_readInto_91 lkX2_25 rfl rfl ?_
      rw [show mm 18 4 = tokC t len p from by rw [hs.2.2.2.2.2.1, ht]]
      refine e_callSi (n := 1) mX2_kindOf [.int (tokC t len p)] dX2_readInto_94 ckX2_57 rfl (by decide +kernel) rfl rfl (Nat.le_of_ble_eq_true rfl) ⟨Nat.zero_le _, Nat.zero_le _⟩ (s_kindOf mm (tokC t len p)) (fun v94 m1 hm1 => ?_)
      obtain ⟨rfl, rfl⟩ := hm1
      refine e_if_eq 112 dX2_readInto_97 (by decide) (fun c97 => ?_) (fun c97 => ?_)
      · exact s_ri112 m0 mm len hl t R hFm ⟨ht, Or.inr ⟨rd, p, V, k, hV, hk5, hs, hR, hE2, by first | exact c97 | exact Classical.byContradiction c97, h0⟩⟩ _
      · refine e_aload_n dX2_readInto_100 rfl ?_
        refine e_aload_n dX2_readInto_101 rfl ?_
        refine e_iload_n dX2_readInto_102 rfl ?_
        refine e_callVv (n := 2) mX2_readPan [.ref 31, .int (nI k)] dX2_readInto_103 ckX2_61 rfl (by decide +kernel) rfl rfl rfl rfl (Nat.le_of_ble_eq_true rfl) ⟨Nat.zero_le _, Nat.zero_le _⟩ (s_rdPA mm len hl t ht R V k p rd hV hk5 hs hR hE2 c97) (fun mz hmz => ?_)
        obtain ⟨hz, hzF⟩ := hmz
        refine e_iinc (v := nI (k + 1)) (L' := [some (.ref 18), some (.ref 31), some (.int (nI (k + 1)))]) dX2_readInto_106 rfl (j_inc rfl) (by decide) (jnl_at (i := 1) rfl) rfl ?_
        refine e_goto 78 dX2_readInto_109 (by decide) ?_
        exact ih () mz ⟨hFm.tr hzF, hz⟩

set_option maxHeartbeats 2000000 in
set_option maxRecDepth 20000 in
theorem s_ri41 (m0 m : jM) (len : Nat) (hl : len ≤ 120) (t : Nat → Int32) (R : PR) (hF : FR m0 m) (hI0 : IS m t len R 0) : jE (jmd mX2_readInto (vP (fun m1 => RE m0 m1 t len R))) mX2_readInto 41 [some (.ref 18), some (.ref 31), none] [] m := by
  refine e_iconst (v := 0) dX2_readInto_41 rfl ?_
  refine e_istore_n (L' := [some (.ref 18), some (.ref 31), some (.int 0)]) dX2_readInto_42 (Nat.le_of_ble_eq_true rfl) (Nat.le_of_ble_eq_true rfl) (jnl_at (i := 1) rfl) rfl ?_
  refine e_loopS (σ := Unit) 43 4 (fun k _ => [some (.ref 18), some (.ref 31), some (.int (nI k))]) (fun k _ mm => FR m0 mm ∧ IS mm t len R k) 0 () (by decide) rfl (⟨hF, hI0⟩) ?_ ?_
  · intro _ mm hI
    show jE _ _ 43 [some (.ref 18), some (.ref 31), some (.int (nI 4))] [] mm
    obtain ⟨hFm, hIm⟩ := hI
    refine e_iload_n dX2_readInto_43 rfl ?_
    refine e_iconst (v := 3) dX2_readInto_44 rfl ?_
    refine e_icmp_gt 76 dX2_readInto_45 (by decide) (fun c45 => ?_) (fun h => absurd (by decide : (3 : Int32) < nI 4) h)
    refine s_ri76 m0 mm len hl t R hFm (hIm.ip ?_) _
    rcases hIm.2 with hx | ⟨rd, p, h6, _⟩
    · exact Or.inl hx
    · exact absurd h6 (by decide)
  · intro k hk_ _ mm hI ih
    show jE _ _ 43 [some (.ref 18), some (.ref 31), some (.int (nI k))] [] mm
    obtain ⟨hFm, hIm⟩ := hI
    have hk4 := hk_
    refine e_iload_n dX2_readInto_43 rfl ?_
    refine e_iconst (v := 3) dX2_readInto_44 rfl ?_
    refine e_icmp_gt 76 dX2_readInto_45 (by decide) (fun h => absurd ((j_lt (a := 3) (b := k) (by decide) (by omega)).mp h) (by omega)) (fun c45 => ?_)
    obtain ⟨ht, ⟨e, q, hRe, hs⟩ | ⟨rd, p, hk3, hs, hR, hE2⟩⟩ := hIm
    · have hft := True.intro
      refine e_aload_n dX2_readInto_48 rfl ?_
      refine e_getI dX2_readInto_49 lkX2_31 rfl rfl ?_
      rw [show mm 18 6 = e from hs.2.2.1]
      refine e_if_ne 76 dX2_readInto_52 (by decide) (fun c52 => ?_) (fun h => absurd h hs.2.1)
      exact s_ri76 m0 mm len hl t R hFm (IS.ip (k := k) ⟨ht, Or.inl ⟨e, q, hRe, hs⟩⟩ (Or.inl ⟨e, q, hRe, hs⟩)) _
    · have hff := True.intro
      refine e_aload_n dX2_readInto_48 rfl ?_
      refine e_getI dX2_readInto_49 lkX2_31 rfl rfl ?_
      rw [show mm 18 6 = 0 from hs.2.2.1]
      refine e_if_ne 76 dX2_readInto_52 (by decide) (fun h => absurd h (by decide)) (fun c52 => ?_)
      refine e_aload_n dX2_readInto_55 rfl ?_
      refine e_getI dX2_readInto_56 lkX2_25 rfl rfl ?_
      rw [show mm 18 4 = tokC t len p from by rw [hs.2.2.2.2.2.1, ht]]
      refine e_bipush (v := 115) dX2_readInto_59 rfl ?_
      refine e_icmp_ne 76 dX2_readInto_61 (by decide) (fun c61 => ?_) (fun c61 => ?_)
      · exact s_ri76 m0 mm len hl t R hFm (IS.ip (k := k) ⟨ht, Or.inr ⟨rd, p, hk3, hs, hR, hE2⟩⟩ (Or.inr ⟨rd, p, hk3, hs, hR, hE2, c61⟩)) _
      · refine e_aload_n dX2_readInto_64 rfl ?_
        refine e_aload_n dX2_readInto_65 rfl ?_
        refine e_iload_n dX2_readInto_66 rfl ?_
        have h115 : tokC t len p = 115 := by first | exact c61 | exact Classical.byContradiction c61
        refine e_callVv (n := 2) mX2_readSinger [.ref 31, .int (nI k)] dX2_readInto_67 ckX2_53 rfl (by decide +kernel) rfl rfl rfl rfl (Nat.le_of_ble_eq_true rfl) ⟨Nat.zero_le _, Nat.zero_le _⟩ (s_rdSA mm len hl t ht R k p rd hk3 hs hR hE2 h115) (fun mz hmz => ?_)
        obtain ⟨hz, hzF⟩ := hmz
        refine e_iinc (v := nI (k + 1)) (L' := [some (.ref 18), some (.ref 31), some (.int (nI (k + 1)))]) dX2_readInto_70 rfl (j_inc rfl) (by decide) (jnl_at (i := 1) rfl) rfl ?_
        refine e_goto 43 dX2_readInto_73 (by decide) ?_
        exact ih () mz ⟨hFm.tr hzF, hz⟩

theorem kit_begin {m : jM} {t : Nat → Int32} {len : Nat} {rd f : Nat → Int32} (hrd : ∀ i, i < 51 → rd i = 0) (hr : ST m len (stC t len 59 (nmC t len 1 9 (stC t len 106 (.inr 0))))) (e31 : m 31 = upd (upd (upd (upd (upd f 0 1) 2 0) 6 0) 10 0) 1 (nvC t len 1 9 (stC t len 106 (.inr 0)))) (h38 : ∀ s, s < 3 → m 38 s = 0) (h40 : ∀ p, p < 5 → m 40 p = 0) (h41 : ∀ p, p < 5 → m 41 p = -1000000) : (∃ e q, kitP t len rd = .inl (e, q) ∧ ST m len (.inl (e, q))) ∨ (∃ rd' p, 0 ≤ 3 ∧ ST m len (.inr p) ∧ KR m rd' 0 0 ∧ kitP t len rd = kitL t len (len + 1 - p) rd' 0 0 p) := by
  unfold kitP
  rw [take_rel (by decide)]
  rcases h1 : stC t len 106 (.inr 0) with ⟨e, q⟩ | p1
  · rw [h1] at hr
    exact Or.inl ⟨e, q, rfl, hr⟩
  · rw [h1] at hr e31
    show (∃ e q, bindPR (numM t len rd 1 9 0 59 p1) _ = .inl (e, q) ∧ _) ∨ _
    show (∃ e q, bindPR (numM t len rd 1 9 0 59 p1) (fun r2 p2 => kitL t len (len + 1 - p2) r2 0 0 p2) = .inl (e, q) ∧ ST m len (.inl (e, q))) ∨ (∃ rd' p, 0 ≤ 3 ∧ ST m len (.inr p) ∧ KR m rd' 0 0 ∧ bindPR (numM t len rd 1 9 0 59 p1) (fun r2 p2 => kitL t len (len + 1 - p2) r2 0 0 p2) = kitL t len (len + 1 - p) rd' 0 0 p)
    rw [num_rel (by decide)]
    rcases h2 : stC t len 59 (nmC t len 1 9 (.inr p1)) with ⟨e, q⟩ | p2
    · rw [h2] at hr
      exact Or.inl ⟨e, q, rfl, hr⟩
    · obtain ⟨p3, h3⟩ := stC_r h2
      have hv := nv_ran h3
      rw [h2] at hr
      refine Or.inr ⟨upd rd 0 (nvC t len 1 9 (.inr p1)), p2, by decide, hr, ?_, rfl⟩
      have no : ∀ {Q : Nat → Prop} (p : Nat), p < 0 → Q p := fun p hp => absurd hp (Nat.not_lt_zero p)
      refine ⟨⟨?_, ?_, ?_, ?_, no, no, no, no, no, no, no, no, no, no⟩, ?_, h38, h40, h41, ?_, ?_, ?_, fun i a b => ?_, fun i a b => ?_, ?_, no⟩
      · rw [e31, upd_s, upd_s]
      · rw [e31, upd_n _ _ (by decide), upd_n _ _ (by decide), upd_n _ _ (by decide), upd_s]; rfl
      · rw [e31, upd_n _ _ (by decide), upd_n _ _ (by decide), upd_s]; rfl
      · rw [e31, upd_n _ _ (by decide), upd_s, upd_n _ _ (by decide)]; exact (hrd 3 (by decide)).symm
      · rw [e31, upd_n _ _ (by decide), upd_n _ _ (by decide), upd_n _ _ (by decide), upd_n _ _ (by decide), upd_s]
      · rw [upd_n _ _ (by decide)]; exact hrd 1 (by decide)
      · rw [upd_n _ _ (by decide)]; exact hrd 2 (by decide)
      · rw [upd_n _ _ (by decide)]; exact hrd 3 (by decide)
      · rw [upd_n _ _ (by omega)]; exact hrd i (by omega)
      · rw [upd_n _ _ (by omega)]; exact hrd i (by omega)
      · rw [upd_s]; exact hv

set_option maxHeartbeats 2000000 in
set_option maxRecDepth 20000 in
theorem s_readInto (m : jM) (len : Nat) (hl : len ≤ 120) (hs : m 18 1 = nI len) (rd : Nat → Int32) (hrd : ∀ i, i < 51 → rd i = 0) : vX mX2_readInto [.ref 18, .ref 31] m (fun m1 => RE m m1 (m 19) len (kitP (m 19) len rd)) := by
  refine jX_of (L := [some (.ref 18), some (.ref 31), none]) 1 rfl rfl (by decide +kernel) rfl ?_
  refine e_aload_n dX2_readInto_0 rfl ?_
  refine e_callVv (n := 0) mX0_begin [] dX2_readInto_1 ckX2_34 rfl (by decide +kernel) rfl rfl rfl rfl (Nat.le_of_ble_eq_true rfl) ⟨Nat.zero_le _, Nat.zero_le _⟩ (s_Kbegin m) (fun mb hmb => ?_)
  obtain ⟨hb1, hb2, hb3, hb4, hb5⟩ := hmb
  refine e_aload_n dX2_readInto_4 rfl ?_
  refine e_iconst (v := 0) dX2_readInto_5 rfl ?_
  refine e_putI dX2_readInto_6 lkX2_31 rfl rfl fwX2_6 (Or.inl rfl) (fun wf hwf => ?_)
  refine e_aload_n dX2_readInto_9 rfl ?_
  refine e_iconst (v := 0) dX2_readInto_10 rfl ?_
  refine e_putI dX2_readInto_11 lkX2_22 rfl rfl fwX2_3 (Or.inl rfl) (fun wn hwn => ?_)
  refine e_aload_n dX2_readInto_14 rfl ?_
  have gt : wn 19 = m 19 := by rw [hwn, jup_n _ _ (by decide), hwf, jup_n _ _ (by decide), hb1 19 (by decide) (by decide) (by decide) (by decide)]
  refine e_callVv (n := 0) mX2_step [] dX2_readInto_15 ckX2_39 rfl (by decide +kernel) rfl rfl rfl rfl (Nat.le_of_ble_eq_true rfl) ⟨Nat.zero_le _, Nat.zero_le _⟩ (s_stepT wn len 0 hl (m 19) gt (Nat.zero_le _) (by rw [hwn, jup_s, upd_n _ _ (by decide), hwf, jup_s, upd_n _ _ (by decide), hb1 18 (by decide) (by decide) (by decide) (by decide)]; exact hs) (by rw [hwn, jup_s, upd_s]; rfl) (by rw [hwn, jup_s, upd_n _ _ (by decide), hwf, jup_s, upd_s])) (fun ms hms => ?_)
  obtain ⟨hX1, ht1, hr1⟩ := hms
  refine e_aload_n dX2_readInto_18 rfl ?_
  refine e_bipush (v := 106) dX2_readInto_19 rfl ?_
  refine e_callVv (n := 1) mX2_take [.int 106] dX2_readInto_21 ckX2_42 rfl (by decide +kernel) rfl rfl rfl rfl (Nat.le_of_ble_eq_true rfl) ⟨Nat.zero_le _, Nat.zero_le _⟩ (s_takeT ms len hl (m 19) ht1 _ hr1 106) (fun m2 hm2 => ?_)
  obtain ⟨hX2, ht2, hr2⟩ := hm2
  refine e_aload_n dX2_readInto_24 rfl ?_
  refine e_aload_n dX2_readInto_25 rfl ?_
  refine e_iconst (v := 1) dX2_readInto_26 rfl ?_
  refine e_bipush (v := 9) dX2_readInto_27 rfl ?_
  refine e_callVi (n := 2) mX2_takeNumber [.int 1, .int 9] dX2_readInto_29 ckX2_46 rfl (by decide +kernel) rfl rfl rfl rfl (Nat.le_of_ble_eq_true rfl) ⟨Nat.zero_le _, Nat.zero_le _⟩ (s_takeNT m2 len hl (m 19) ht2 _ hr2 1 9) (fun v29 m3 hm3 => ?_)
  obtain ⟨rfl, hX3, ht3, hr3⟩ := hm3
  refine e_putI dX2_readInto_32 lkX2_50 rfl rfl fwX0_1 (Or.inl rfl) (fun w4 hw4 => ?_)
  refine e_aload_n dX2_readInto_35 rfl ?_
  refine e_bipush (v := 59) dX2_readInto_36 rfl ?_
  have ht4 : w4 19 = m 19 := by rw [hw4, jup_n _ _ (by decide)]; exact ht3
  have hr4 := ST.fr (m1 := w4) hr3 (by rw [hw4, jup_n _ _ (by decide)]) (by rw [hw4, jup_n _ _ (by decide)])
  refine e_callVv (n := 1) mX2_take [.int 59] dX2_readInto_38 ckX2_42 rfl (by decide +kernel) rfl rfl rfl rfl (Nat.le_of_ble_eq_true rfl) ⟨Nat.zero_le _, Nat.zero_le _⟩ (s_takeT w4 len hl (m 19) ht4 _ hr4 59) (fun m5 hm5 => ?_)
  obtain ⟨hX5, ht5, hr5⟩ := hm5
  have e31 : m5 31 = upd (upd (upd (upd (upd (m 31) 0 1) 2 0) 6 0) 10 0) 1 (nvC (m 19) len 1 9 (stC (m 19) len 106 (.inr 0))) := by
    rw [hX5.1 31 (by decide), hw4, jup_s, hX3.1 31 (by decide), hX2.1 31 (by decide), hX1.1 31 (by decide), hwn, jup_n _ _ (by decide), hwf, jup_n _ _ (by decide), hb2]
  have eo : ∀ c, c ≠ 18 → c ≠ 31 → m5 c = mb c := fun c a b => by
    rw [hX5.1 c a, hw4, jup_n _ _ b, hX3.1 c a, hX2.1 c a, hX1.1 c a, hwn, jup_n _ _ a, hwf, jup_n _ _ a]
  refine s_ri41 m m5 len hl (m 19) _ (fun c a b => by rw [eo c a (by omega)]; exact hb1 c (by omega) (by omega) (by omega) (by omega)) ⟨ht5, ?_⟩
  exact kit_begin hrd hr5 e31 (fun s hs => by rw [eo 38 (by decide) (by decide)]; exact hb3 s hs) (fun s hs => by rw [eo 40 (by decide) (by decide)]; exact hb4 s hs) (fun s hs => by rw [eo 41 (by decide) (by decide)]; exact hb5 s hs)

set_option maxHeartbeats 2000000 in
set_option maxRecDepth 20000 in
theorem s_Jkitchen (m : jM) (len : Nat) (hl : len ≤ 120) (hs : m 18 1 = nI len) (rd : Nat → Int32) (hrd : ∀ i, i < 51 → rd i = 0) : iX mX3_kitchen [.ref 0] m (fun v m1 => (∃ e q, kitP (m 19) len rd = .inl (e, q) ∧ v = -1000100 - nI q ∧ m1 19 = m 19 ∧ m1 18 1 = 0 ∧ m1 0 = upd (m 0) 16 e ∧ (∀ c, c ≠ 0 → c ≠ 18 → (c < 31 ∨ 41 < c) → m1 c = m c)) ∨ (∃ rd2 q V P, kitP (m 19) len rd = .inr (rd2, q) ∧ v = nI P ∧ V ≤ 3 ∧ P ≤ 5 ∧ rd2 1 = nI V ∧ rd2 2 = nI P ∧ WK rd2 V P ∧ RK m1 20 rd2 V P ∧ m1 20 0 = 1 ∧ m1 19 = m 19 ∧ m1 18 1 = 0 ∧ m1 0 = upd (m 0) 6 0 ∧ (∀ c, c ≠ 0 → c ≠ 18 → (c < 20 ∨ 41 < c) → m1 c = m c))) := by
  refine jX_of (L := [some (.ref 0)]) 0 rfl rfl (by decide +kernel) rfl ?_
  refine e_aload_n dX3_kitchen_0 rfl ?_
  refine e_getR (o := 18) (b := 18) dX3_kitchen_1 lkX3_18 rfl rfl (by decide) rfl ?_
  refine e_aload_n dX3_kitchen_4 rfl ?_
  refine e_getR (o := 31) (b := 31) dX3_kitchen_5 lkX3_29 rfl rfl (by decide) rfl ?_
  refine e_callVv (n := 1) mX2_readInto [.ref 31] dX3_kitchen_8 ckX3_126 rfl (by decide +kernel) rfl rfl rfl rfl (Nat.le_of_ble_eq_true rfl) ⟨Nat.zero_le _, Nat.zero_le _⟩ (s_readInto m len hl hs rd hrd) (fun mr hmr => ?_)
  obtain ⟨hF, ht, hsz, hx⟩ := hmr
  refine e_aload_n dX3_kitchen_11 rfl ?_
  refine e_getR (o := 18) (b := 18) dX3_kitchen_12 lkX3_18 rfl rfl (by decide) rfl ?_
  refine e_iconst (v := 0) dX3_kitchen_15 rfl ?_
  refine e_putI dX3_kitchen_16 lkX3_121 rfl rfl fwX2_1 (Or.inl rfl) (fun w0 hw0 => ?_)
  rcases hx with ⟨e, q, hR, he, hf, hpl⟩ | ⟨rd2, q, V, P, hR, hf, hV, hP, hKR⟩
  · have hft := True.intro
    refine e_aload_n dX3_kitchen_19 rfl ?_
    refine e_getR (o := 18) (b := 18) dX3_kitchen_20 lkX3_18 rfl rfl (by decide) rfl ?_
    refine e_getI dX3_kitchen_23 lkX3_130 rfl rfl ?_
    rw [show w0 18 6 = e from by rw [hw0, jup_s, upd_n _ _ (by decide)]; exact hf]
    refine e_if_eq 51 dX3_kitchen_26 (by decide) (fun h => absurd h he) (fun c26 => ?_)
    refine e_aload_n dX3_kitchen_29 rfl ?_
    refine e_aload_n dX3_kitchen_30 rfl ?_
    refine e_getR (o := 18) (b := 18) dX3_kitchen_31 lkX3_18 rfl rfl (by decide) rfl ?_
    refine e_getI dX3_kitchen_34 lkX3_130 rfl rfl ?_
    rw [show w0 18 6 = e from by rw [hw0, jup_s, upd_n _ _ (by decide)]; exact hf]
    refine e_putI dX3_kitchen_37 lkX3_73 rfl rfl fwX3_16 (Or.inl rfl) (fun w1 hw1 => ?_)
    refine e_ldc dX3_kitchen_40 kkX3_133 ?_
    refine e_aload_n dX3_kitchen_42 rfl ?_
    refine e_getR (o := 18) (b := 18) dX3_kitchen_43 lkX3_18 rfl rfl (by decide) rfl ?_
    refine e_getI dX3_kitchen_46 lkX3_134 rfl rfl ?_
    rw [show w1 18 2 = nI q from by rw [hw1, jup_n _ _ (by decide), hw0, jup_s, upd_n _ _ (by decide)]; exact hpl]
    refine e_isub dX3_kitchen_49 ?_
    exact e_iret dX3_kitchen_50 rfl (Or.inl ⟨e, q, hR, rfl, by rw [hw1, jup_n _ _ (by decide), hw0, jup_n _ _ (by decide)]; exact ht, by rw [hw1, jup_n _ _ (by decide), hw0, jup_s, upd_s], by rw [hw1, jup_s, hw0, jup_n _ _ (by decide), hF 0 (by decide) (by omega)], fun c a b d => by rw [hw1, jup_n _ _ a, hw0, jup_n _ _ b]; exact hF c b d⟩)
  · have hff := True.intro
    refine e_aload_n dX3_kitchen_19 rfl ?_
    refine e_getR (o := 18) (b := 18) dX3_kitchen_20 lkX3_18 rfl rfl (by decide) rfl ?_
    refine e_getI dX3_kitchen_23 lkX3_130 rfl rfl ?_
    rw [show w0 18 6 = 0 from by rw [hw0, jup_s, upd_n _ _ (by decide)]; exact hf]
    refine e_if_eq 51 dX3_kitchen_26 (by decide) (fun c26 => ?_) (fun h => absurd h (by decide))
    refine e_aload_n dX3_kitchen_51 rfl ?_
    refine e_getR (o := 20) (b := 20) dX3_kitchen_52 lkX3_25 rfl rfl (by decide) rfl ?_
    refine e_aload_n dX3_kitchen_55 rfl ?_
    refine e_getR (o := 31) (b := 31) dX3_kitchen_56 lkX3_29 rfl rfl (by decide) rfl ?_
    have hRw : RK w0 31 rd2 V P := hKR.1.fr (fun c a b => by rw [hw0, jup_n _ _ (by omega)])
    refine e_callVv (n := 1) mX0_takeFrom [.ref 31] dX3_kitchen_59 ckX3_137 rfl (by decide +kernel) rfl rfl rfl rfl (Nat.le_of_ble_eq_true rfl) ⟨Nat.zero_le _, Nat.zero_le _⟩ (s_CtakeFrom 20 31 k20 k31 (by decide) w0 rd2 V P hV hP hRw (Or.inr (by rw [hw0, jup_n _ _ (by decide)]; exact hKR.2.1))) (fun mq hmq => ?_)
    refine e_aload_n dX3_kitchen_62 rfl ?_
    refine e_iconst (v := 0) dX3_kitchen_63 rfl ?_
    refine e_putI dX3_kitchen_64 lkX3_41 rfl rfl fwX3_6 (Or.inl rfl) (fun w2 hw2 => ?_)
    refine e_aload_n dX3_kitchen_67 rfl ?_
    refine e_getR (o := 20) (b := 20) dX3_kitchen_68 lkX3_25 rfl rfl (by decide) rfl ?_
    refine e_getI dX3_kitchen_71 lkX3_140 rfl rfl ?_
    rw [show w2 20 6 = nI P from by rw [hw2, jup_n _ _ (by decide)]; exact hmq.1.ps]
    exact e_iret dX3_kitchen_74 rfl (Or.inr ⟨rd2, q, V, P, hR, rfl, hV, hP, hKR.2.2.2.2.2.1, hKR.2.2.2.2.2.2.1, hKR.wk hV hP, hmq.1.fr (fun c a b => by rw [hw2, jup_n _ _ (by omega)]), by rw [hw2, jup_n _ _ (by decide), hmq.2.1, hw0, jup_n _ _ (by decide)]; exact hKR.2.1, by rw [hw2, jup_n _ _ (by decide), hmq.2.2 19 (by decide), hw0, jup_n _ _ (by decide)]; exact ht, by rw [hw2, jup_n _ _ (by decide), hmq.2.2 18 (by decide), hw0, jup_s, upd_s], by rw [hw2, jup_s, hmq.2.2 0 (by decide), hw0, jup_n _ _ (by decide), hF 0 (by decide) (by omega)], fun c a b d => by rw [hw2, jup_n _ _ a, hmq.2.2 c (by omega), hw0, jup_n _ _ b]; exact hF c b (by omega)⟩)
