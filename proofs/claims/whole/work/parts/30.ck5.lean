/-! ===== the class's kitchens: whole bars ===== -/
theorem upd_id {f : Nat → Int32} {k : Nat} {x : Int32} (h : f k = x) : upd f k x = f := by
  funext j
  unfold upd
  by_cases e : j = k
  · rw [if_pos e, e, h]
  · rw [if_neg e]
theorem sub_ran : ∀ a c, a < 21 → c < 10 → ¬ nI a < nI c → 0 ≤ nI a - nI c ∧ nI a - nI c ≤ 20 := fun a c ha hc =>
  co2 (P := fun a c => ¬ nI a < nI c → 0 ≤ nI a - nI c ∧ nI a - nI c ≤ 20) (a := 21) (b := 10) (by decide) (fun q hq => co_dec (P := fun q => ¬ nI (q / 10) < nI (q % 10) → 0 ≤ nI (q / 10) - nI (q % 10) ∧ nI (q / 10) - nI (q % 10) ≤ 20) (by decide +kernel) hq) ha hc
theorem thk_ran {k less thick needs l : Int32} {r : Bool} (ht : 0 ≤ thick ∧ thick ≤ 20) (hl : 1 ≤ less ∧ less ≤ 9) (hn : 1 ≤ needs ∧ needs ≤ 20) (h : ¬ needs ≤ thick) : 0 ≤ thkB k less thick l r ∧ thkB k less thick l r ≤ 20 := by
  obtain ⟨x, hx, rfl⟩ := j_ran (n := 20) (by decide) ht
  obtain ⟨y, hy, rfl⟩ := j_ran (n := 9) (by decide) ⟨Int32.le_trans (by decide) hl.1, hl.2⟩
  obtain ⟨z, hz, rfl⟩ := j_ran (n := 20) (by decide) ⟨Int32.le_trans (by decide) hn.1, hn.2⟩
  have hzx : x < z := by
    rcases Nat.lt_or_ge x z with q | q
    · exact q
    · exact absurd ((j_le (by omega) (by omega)).mpr q) h
  have h1 : 0 ≤ nI x + 1 ∧ nI x + 1 ≤ 20 := by
    rw [show nI x + 1 = nI (x + 1) from j_add rfl (show (1 : Int32) = nI 1 from rfl)]
    exact ⟨(j_le (by decide) (by omega) (a := 0)).mpr (Nat.zero_le _), (j_le (by omega) (by decide) (b := 20)).mpr (by omega)⟩
  have h0 : (0 : Int32) ≤ 0 ∧ (0 : Int32) ≤ 20 := by decide
  unfold thkB
  by_cases c1 : k = 5
  · rw [if_pos c1]
    by_cases c2 : l < 0
    · rw [if_pos c2]; exact h1
    · rw [if_neg c2]; exact h0
  rw [if_neg c1]
  by_cases c2 : ¬ k = 4 ∧ 0 ≤ l
  · rw [if_pos c2]
    by_cases c3 : r = true
    · rw [if_pos c3]; exact h1
    rw [if_neg c3]
    by_cases c4 : k = 2 ∨ nI x < nI y
    · rw [if_pos c4]; exact h0
    · rw [if_neg c4]; exact sub_ran x y (by omega) hy (fun q => c4 (Or.inr q))
  · rw [if_neg c2]; exact ht
theorem WK.hear {st nt : Nat → Int32} {V P p : Nat} (h : WK st V P) (hn : ∀ s, s < V → ∃ a, a < 8 ∧ nt s = nI a) (hp : p < P) (hs : ¬ st (26 + p) ≤ st (36 + p)) : WK (hearB st nt V p) V P := by
  have hP := h.p5
  obtain ⟨km, hkm, hmk⟩ := j_ran (n := 127) (by decide) (h.md p hp)
  obtain ⟨b, hb, e1, e2, e3⟩ := nts_ok (st := st) (nt := nt) (p := p) hkm hmk V hn
  have hT := thk_ran (k := st (16 + p)) (l := lsB st nt p V) (r := rqB (st (16 + p)) (st (46 + p)) (lsB st nt p V) (rtB st nt p V)) (h.tk p hp) h.bk (h.nd p hp) hs
  have hl : lsB st nt p V = -1000000 ∨ (0 ≤ lsB st nt p V ∧ lsB st nt p V < 7) := by
    rw [e2]
    by_cases b0 : b = 0
    · exact Or.inl (if_pos b0)
    · obtain ⟨a, ha, ea⟩ := ls_ran b hb b0
      rw [ea]
      exact Or.inr ⟨(j_le (by decide) (by omega) (a := 0)).mpr (Nat.zero_le _), (j_lt (by omega) (by decide) (b := 7)).mpr ha⟩
  unfold hearB
  generalize thkB (st (16 + p)) (st 0) (st (36 + p)) (lsB st nt p V) (rqB (st (16 + p)) (st (46 + p)) (lsB st nt p V) (rtB st nt p V)) = T at hT ⊢
  generalize lsB st nt p V = l at hl ⊢
  have g : ∀ i, i ≠ 36 + p → i ≠ 41 + p → i ≠ 46 + p → setP3 st p T l i = st i := fun i a b c => by
    unfold setP3
    rw [upd_n _ _ c, upd_n _ _ b, upd_n _ _ a]
  have g36 : setP3 st p T l (36 + p) = T := by
    unfold setP3
    rw [upd_n _ _ (by omega), upd_n _ _ (by omega), upd_s]
  have g41 : setP3 st p T l (41 + p) = if st (26 + p) ≤ T then 1 else 0 := by
    unfold setP3
    rw [upd_n _ _ (by omega), upd_s]
  have g46 : setP3 st p T l (46 + p) = if st (26 + p) ≤ T then -1000000 else l := by
    unfold setP3
    rw [upd_s]
  refine ⟨h.v3, h.p5, ?_, ?_, ?_, ?_, ?_, ?_, ?_, ?_, ?_⟩
  · rw [g _ (by omega) (by omega) (by omega)]; exact h.bk
  · intro q hq
    rw [g (26 + q) (by omega) (by omega) (by omega)]
    by_cases e : q = p
    · subst e; rw [g41, g36]
    · rw [g (41 + q) (by omega) (by omega) (by omega), g (36 + q) (by omega) (by omega) (by omega)]; exact h.dn q hq
  · intro q hq
    rw [g (26 + q) (by omega) (by omega) (by omega)]
    by_cases e : q = p
    · subst e; rw [g46, g36]; exact fun z => if_pos z
    · rw [g (46 + q) (by omega) (by omega) (by omega), g (36 + q) (by omega) (by omega) (by omega)]; exact h.hn q hq
  · intro q hq
    by_cases e : q = p
    · subst e; rw [g46]
      by_cases c : st (26 + q) ≤ T
      · rw [if_pos c]; exact Or.inl rfl
      · rw [if_neg c]; exact hl
    · rw [g (46 + q) (by omega) (by omega) (by omega)]; exact h.hd q hq
  · intro q hq
    by_cases e : q = p
    · subst e; rw [g36]; exact hT
    · rw [g (36 + q) (by omega) (by omega) (by omega)]; exact h.tk q hq
  · intro q hq; rw [g _ (by omega) (by omega) (by omega)]; exact h.nd q hq
  · intro q hq; rw [g _ (by omega) (by omega) (by omega)]; exact h.kd q hq
  · intro q hq; rw [g _ (by omega) (by omega) (by omega)]; exact h.md q hq
  · intro q hq; rw [g _ (by omega) (by omega) (by omega)]; exact h.hr q hq
theorem WK.set41 {st : Nat → Int32} {V P p : Nat} (h : WK st V P) (hp : p < P) : st (41 + p) = 1 ↔ st (26 + p) ≤ st (36 + p) := by
  rw [h.dn p hp]
  by_cases c : st (26 + p) ≤ st (36 + p)
  · rw [if_pos c]; exact ⟨fun _ => c, fun _ => rfl⟩
  · rw [if_neg c]; exact ⟨fun z => absurd z (by decide), fun z => absurd z c⟩
theorem panB_set {st nt : Nat → Int32} {V P p : Nat} (h : WK st V P) (hp : p < P) (c : st (26 + p) ≤ st (36 + p)) : panB st nt V p = st := by
  unfold panB
  rw [if_pos ((h.set41 hp).mpr c)]
  exact upd_id (h.hn p hp c)
theorem panB_hear {st nt : Nat → Int32} {V P p : Nat} (h : WK st V P) (hp : p < P) (c : ¬ st (26 + p) ≤ st (36 + p)) : panB st nt V p = hearB st nt V p := if_neg (fun z => c ((h.set41 hp).mp z))
theorem WK.pan {st nt : Nat → Int32} {V P p : Nat} (h : WK st V P) (hn : ∀ s, s < V → ∃ a, a < 8 ∧ nt s = nI a) (hp : p < P) : WK (panB st nt V p) V P := by
  by_cases c : st (26 + p) ≤ st (36 + p)
  · rw [panB_set h hp c]; exact h
  · rw [panB_hear h hp c]; exact h.hear hn hp c
theorem WK.pans {st nt : Nat → Int32} {V P : Nat} (h : WK st V P) (hn : ∀ s, s < V → ∃ a, a < 8 ∧ nt s = nI a) : ∀ k, k ≤ P → WK (pansB st nt V k) V P
  | 0, _ => h
  | k + 1, hk => (WK.pans h hn k (by omega)).pan hn (by omega)
theorem WK.cg {st st' : Nat → Int32} {V P : Nat} (h : WK st V P) (e : ∀ i, i < 51 → i ≠ 3 → (i < 13 ∨ 16 ≤ i) → st' i = st i) : WK st' V P := by
  have hP := h.p5
  refine ⟨h.v3, h.p5, ?_, ?_, ?_, ?_, ?_, ?_, ?_, ?_, ?_⟩
  · rw [e 0 (by decide) (by decide) (by decide)]; exact h.bk
  · intro q hq; rw [e _ (by omega) (by omega) (by omega), e (26 + q) (by omega) (by omega) (by omega), e (36 + q) (by omega) (by omega) (by omega)]; exact h.dn q hq
  · intro q hq; rw [e _ (by omega) (by omega) (by omega), e (36 + q) (by omega) (by omega) (by omega), e (46 + q) (by omega) (by omega) (by omega)]; exact h.hn q hq
  · intro q hq; rw [e _ (by omega) (by omega) (by omega)]; exact h.hd q hq
  · intro q hq; rw [e _ (by omega) (by omega) (by omega)]; exact h.tk q hq
  · intro q hq; rw [e _ (by omega) (by omega) (by omega)]; exact h.nd q hq
  · intro q hq; rw [e _ (by omega) (by omega) (by omega)]; exact h.kd q hq
  · intro q hq; rw [e _ (by omega) (by omega) (by omega)]; exact h.md q hq
  · intro q hq; rw [e _ (by omega) (by omega) (by omega)]; exact h.hr q hq
theorem WK.one {st nt : Nat → Int32} {V P : Nat} (h : WK st V P) (hn : ∀ s, s < V → ∃ a, a < 8 ∧ nt s = nI a) : WK (oneB st nt V P) V P := (h.pans hn P (Nat.le_refl _)).cg fun i _ h3 h13 => by
  unfold oneB barB
  rw [upd_n _ _ h3]
  exact runsB_lo h13 V h.v3
theorem isK.lt90 {k : Nat} (h : isK k) : k + 10 < 90 := by rcases h with rfl | rfl | rfl | rfl <;> omega
set_option maxHeartbeats 2000000 in
set_option maxRecDepth 20000 in
theorem s_CsingBar (kc : Nat) (hk : isK kc) (m : jM) (st : Nat → Int32) (V P : Nat) (hW : WK st V P) (hR : RK m kc st V P) (hn : ∀ s, s < V → ∃ a, a < 8 ∧ m 90 s = nI a) : vX mX0_singBar [.ref kc, .ref 90] m (fun m1 => RK m1 kc (oneB st (m 90) V P) V P ∧ KF kc m m1) := by
  have hV := hW.v3
  have hP := hW.p5
  refine jX_of (L := [some (.ref kc), some (.ref 90), none]) 1 rfl rfl (by decide +kernel) rfl ?_
  refine e_iconst (v := 0) dX0_singBar_0 rfl ?_
  refine e_istore_n (L' := [some (.ref kc), some (.ref 90), some (.int 0)]) dX0_singBar_1 (Nat.le_of_ble_eq_true rfl) (Nat.le_of_ble_eq_true rfl) (jnl_at (i := 1) rfl) rfl ?_
  refine e_loopS (σ := Unit) 2 P (fun k _ => [some (.ref kc), some (.ref 90), some (.int (nI k))]) (fun k _ mm => RK mm kc (pansB st (m 90) V k) V P ∧ KF kc m mm) 0 () (Nat.zero_le _) rfl (⟨hR, KF.rf⟩) ?_ ?_
  · intro _ mm hI
    show jE _ _ 2 [some (.ref kc), some (.ref 90), some (.int (nI P))] [] mm
    obtain ⟨hI1, hI2⟩ := hI
    have g90 : mm 90 = m 90 := hI2.1 90 (Or.inr hk.lt90)
    refine e_iload_n dX0_singBar_2 rfl ?_
    refine e_aload_n dX0_singBar_3 rfl ?_
    refine e_getI dX0_singBar_4 lkX0_32 (isK.l0 hk) rfl ?_
    rw [show mm kc 6 = nI P from hI1.ps]
    refine e_icmp_ge 30 dX0_singBar_7 (by decide) (fun c7 => ?_) (fun h => absurd (j_done rfl rfl) h)
    refine e_iconst (v := 0) dX0_singBar_30 rfl ?_
    refine e_istore_n (L' := [some (.ref kc), some (.ref 90), some (.int 0)]) dX0_singBar_31 (Nat.le_of_ble_eq_true rfl) (Nat.le_of_ble_eq_true rfl) (jnl_at (i := 1) rfl) rfl ?_
    refine e_loopS (σ := Unit) 32 V (fun k _ => [some (.ref kc), some (.ref 90), some (.int (nI k))]) (fun k _ mm => RK mm kc (runsB (pansB st (m 90) V P) (m 90) k) V P ∧ KF kc m mm) 0 () (Nat.zero_le _) rfl (⟨hI1, hI2⟩) ?_ ?_
    · intro _ mm hI
      show jE _ _ 32 [some (.ref kc), some (.ref 90), some (.int (nI V))] [] mm
      obtain ⟨hI1, hI2⟩ := hI
      refine e_iload_n dX0_singBar_32 rfl ?_
      refine e_aload_n dX0_singBar_33 rfl ?_
      refine e_getI dX0_singBar_34 lkX0_19 (isK.l0 hk) rfl ?_
      rw [show mm kc 2 = nI V from hI1.vs]
      refine e_icmp_ge 72 dX0_singBar_37 (by decide) (fun c37 => ?_) (fun h => absurd (j_done rfl rfl) h)
      refine e_aload_n dX0_singBar_72 rfl ?_
      refine e_dup dX0_singBar_73 rfl ?_
      refine e_getI dX0_singBar_74 lkX0_44 (isK.l0 hk) rfl ?_
      rw [show mm kc 10 = (runsB (pansB st (m 90) V P) (m 90) V) 3 from hI1.br]
      refine e_iconst (v := 1) dX0_singBar_77 rfl ?_
      refine e_iadd dX0_singBar_78 ?_
      refine e_putI dX0_singBar_79 lkX0_44 (isK.l0 hk) rfl fwX0_10 (Or.inl rfl) (fun mz hmz => ?_)
      exact e_vret dX0_singBar_82 rfl (⟨by rw [hmz]; exact hI1.w_br hV hP _, hI2.tr (by rw [hmz]; exact KF.wb (by decide) _)⟩)
    · intro k hk_ _ mm hI ih
      show jE _ _ 32 [some (.ref kc), some (.ref 90), some (.int (nI k))] [] mm
      have hkV := hk_
      obtain ⟨hI1, hI2⟩ := hI
      have g90 : mm 90 = m 90 := hI2.1 90 (Or.inr hk.lt90)
      refine e_iload_n dX0_singBar_32 rfl ?_
      refine e_aload_n dX0_singBar_33 rfl ?_
      refine e_getI dX0_singBar_34 lkX0_19 (isK.l0 hk) rfl ?_
      rw [show mm kc 2 = nI V from hI1.vs]
      refine e_icmp_ge 72 dX0_singBar_37 (by decide) (fun h => absurd h (j_more (N := V) rfl rfl (by omega) (by omega))) (fun c37 => ?_)
      refine e_aload_n dX0_singBar_40 rfl ?_
      refine e_getR (o := 7) (b := kc + 7) dX0_singBar_41 lkX0_47 (isK.l0 hk) rfl (by decide) rfl ?_
      refine e_iload_n dX0_singBar_44 rfl ?_
      refine e_aload_n dX0_singBar_45 rfl ?_
      refine e_iload_n dX0_singBar_46 rfl ?_
      refine e_iald dX0_singBar_47 rfl k rfl (by omega) (by decide) ?_
      rw [show mm 90 k = m 90 k from by rw [g90]]
      refine e_bipush (v := 7) dX0_singBar_48 rfl ?_
      refine e_icmp_ne 57 dX0_singBar_50 (by decide) (fun c50 => ?_) (fun c50 => ?_)
      · refine e_aload_n dX0_singBar_57 rfl ?_
        refine e_getR (o := 7) (b := kc + 7) dX0_singBar_58 lkX0_47 (isK.l0 hk) rfl (by decide) rfl ?_
        refine e_iload_n dX0_singBar_61 rfl ?_
        refine e_iald dX0_singBar_62 (isK.l7 hk) k rfl (by omega) (by decide) ?_
        rw [show mm (kc + 7) k = (runsB (pansB st (m 90) V P) (m 90) k) (13 + k) from hI1.sg k hkV]
        refine e_iconst (v := 1) dX0_singBar_63 rfl ?_
        refine e_iadd dX0_singBar_64 ?_
        refine e_iast dX0_singBar_65 (isK.l7 hk) k rfl (by omega) (by decide) (fun ms hms => ?_)
        refine e_iinc (v := nI (k + 1)) (L' := [some (.ref kc), some (.ref 90), some (.int (nI (k + 1)))]) dX0_singBar_66 rfl (j_inc rfl) (by decide) (jnl_at (i := 1) rfl) rfl ?_
        refine e_goto 32 dX0_singBar_69 (by decide) ?_
        refine ih () ms ⟨?_, ?_⟩
        · show RK ms kc (upd (runsB (pansB st (m 90) V P) (m 90) k) (13 + k) (if m 90 k < 7 then (runsB (pansB st (m 90) V P) (m 90) k) (13 + k) + 1 else 0)) V P
          rw [hms]
          obtain ⟨a, ha, ea⟩ := hn k hkV
          first | (rw [if_neg (by rw [c50]; decide)]; exact hI1.w_sg hV hP hkV _) | (rw [if_pos (by rw [ea] at c50 ⊢; exact (j_lt (by omega) (by decide) (b := 7)).mpr (by rcases Nat.lt_or_ge a 7 with z | z; exact z; exact absurd (by rw [show a = 7 by omega]; rfl) c50))]; exact hI1.w_sg hV hP hkV _)
        · exact hI2.tr (by rw [hms]; exact KF.w (by decide) (by decide) _)
      · refine e_iconst (v := 0) dX0_singBar_53 rfl ?_
        refine e_goto 65 dX0_singBar_54 (by decide) ?_
        refine e_iast dX0_singBar_65 (isK.l7 hk) k rfl (by omega) (by decide) (fun ms hms => ?_)
        refine e_iinc (v := nI (k + 1)) (L' := [some (.ref kc), some (.ref 90), some (.int (nI (k + 1)))]) dX0_singBar_66 rfl (j_inc rfl) (by decide) (jnl_at (i := 1) rfl) rfl ?_
        refine e_goto 32 dX0_singBar_69 (by decide) ?_
        refine ih () ms ⟨?_, ?_⟩
        · show RK ms kc (upd (runsB (pansB st (m 90) V P) (m 90) k) (13 + k) (if m 90 k < 7 then (runsB (pansB st (m 90) V P) (m 90) k) (13 + k) + 1 else 0)) V P
          rw [hms]
          obtain ⟨a, ha, ea⟩ := hn k hkV
          first | (rw [if_neg (by rw [c50]; decide)]; exact hI1.w_sg hV hP hkV _) | (rw [if_pos (by rw [ea] at c50 ⊢; exact (j_lt (by omega) (by decide) (b := 7)).mpr (by rcases Nat.lt_or_ge a 7 with z | z; exact z; exact absurd (by rw [show a = 7 by omega]; rfl) c50))]; exact hI1.w_sg hV hP hkV _)
        · exact hI2.tr (by rw [hms]; exact KF.w (by decide) (by decide) _)
  · intro k hk_ _ mm hI ih
    show jE _ _ 2 [some (.ref kc), some (.ref 90), some (.int (nI k))] [] mm
    have hkP := hk_
    obtain ⟨hI1, hI2⟩ := hI
    have g90 : mm 90 = m 90 := hI2.1 90 (Or.inr hk.lt90)
    have hWk := hW.pans hn k (by omega)
    refine e_iload_n dX0_singBar_2 rfl ?_
    refine e_aload_n dX0_singBar_3 rfl ?_
    refine e_getI dX0_singBar_4 lkX0_32 (isK.l0 hk) rfl ?_
    rw [show mm kc 6 = nI P from hI1.ps]
    refine e_icmp_ge 30 dX0_singBar_7 (by decide) (fun h => absurd h (j_more (N := P) rfl rfl (by omega) (by omega))) (fun c7 => ?_)
    refine e_aload_n dX0_singBar_10 rfl ?_
    refine e_iload_n dX0_singBar_11 rfl ?_
    refine e_callVi (n := 1) mX0_isSet [.int (nI k)] dX0_singBar_12 ckX0_72 rfl (by decide +kernel) rfl (isK.l0 hk) rfl rfl (Nat.le_of_ble_eq_true rfl) ⟨Nat.zero_le _, Nat.zero_le _⟩ (s_Cset kc hk mm (pansB st (m 90) V k) V P hP hI1 k hkP) (fun v12 m4 hm4 => ?_)
    rcases hm4 with ⟨rfl, ⟨rfl, q⟩ | ⟨rfl, q⟩⟩
    · refine e_if_ne 24 dX0_singBar_15 (by decide) (fun c15 => ?_) (fun h => absurd h (by decide))
      refine e_iinc (v := nI (k + 1)) (L' := [some (.ref kc), some (.ref 90), some (.int (nI (k + 1)))]) dX0_singBar_24 rfl (j_inc rfl) (by decide) (jnl_at (i := 1) rfl) rfl ?_
      refine e_goto 2 dX0_singBar_27 (by decide) ?_
      refine ih () mm ⟨?_, ?_⟩
      · show RK mm kc (panB (pansB st (m 90) V k) (m 90) V k) V P
        rw [panB_set hWk hkP q]
        exact hI1
      · exact hI2
    · refine e_if_ne 24 dX0_singBar_15 (by decide) (fun h => absurd h (by decide)) (fun c15 => ?_)
      refine e_aload_n dX0_singBar_18 rfl ?_
      refine e_iload_n dX0_singBar_19 rfl ?_
      refine e_aload_n dX0_singBar_20 rfl ?_
      refine e_callVv (n := 2) mX0_hear [.int (nI k), .ref 90] dX0_singBar_21 ckX0_84 rfl (by decide +kernel) rfl (isK.l0 hk) rfl rfl (Nat.le_of_ble_eq_true rfl) ⟨Nat.zero_le _, Nat.zero_le _⟩ (s_Chear kc hk mm (pansB st (m 90) V k) V P hWk hI1 (by rw [g90]; exact hn) k hkP) (fun mh hmh => ?_)
      have hh := hmh
      rw [g90] at hh
      refine e_iinc (v := nI (k + 1)) (L' := [some (.ref kc), some (.ref 90), some (.int (nI (k + 1)))]) dX0_singBar_24 rfl (j_inc rfl) (by decide) (jnl_at (i := 1) rfl) rfl ?_
      refine e_goto 2 dX0_singBar_27 (by decide) ?_
      refine ih () mh ⟨?_, ?_⟩
      · show RK mh kc (panB (pansB st (m 90) V k) (m 90) V k) V P
        rw [panB_hear hWk hkP q]
        exact hh.1
      · exact hI2.tr hh.2
