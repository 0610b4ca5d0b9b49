/-! ===== the class's kitchens: a bar of what is foretold ===== -/
theorem RK.fr {m m1 : jM} {kc : Nat} {st : Nat → Int32} {V P : Nat} (h : RK m kc st V P) (e : ∀ c, kc ≤ c → c ≤ kc + 10 → m1 c = m c) : RK m1 kc st V P := by
  unfold RK
  rw [e kc (by omega) (by omega), e (kc + 1) (by omega) (by omega), e (kc + 2) (by omega) (by omega), e (kc + 3) (by omega) (by omega), e (kc + 4) (by omega) (by omega), e (kc + 5) (by omega) (by omega), e (kc + 6) (by omega) (by omega), e (kc + 7) (by omega) (by omega), e (kc + 8) (by omega) (by omega), e (kc + 9) (by omega) (by omega), e (kc + 10) (by omega) (by omega)]
  exact h
/-- what they sing who rest where they cannot -/
def vtB (st v : Nat → Int32) : Nat → Int32 := fun s => if canB st s (v s) = true then v s else 7
theorem vtB_ok {st v : Nat → Int32} {V : Nat} (hn : ∀ s, s < V → ∃ a, a < 8 ∧ v s = nI a) : ∀ s, s < V → ∃ a, a < 8 ∧ vtB st v s = nI a := fun s hs => by
  unfold vtB
  split
  · exact hn s hs
  · exact ⟨7, by decide, rfl⟩
/-- what a trial's bar leaves as it was -/
def TF (kc : Nat) (m m1 : jM) : Prop := (∀ c, c ≠ 90 → c < kc ∨ kc + 10 < c → m1 c = m c) ∧ m1 kc 0 = m kc 0
theorem TF.rf {kc : Nat} {m : jM} : TF kc m m := ⟨fun _ _ _ => rfl, rfl⟩
theorem TF.tr {kc : Nat} {m m1 m2 : jM} (h : TF kc m m1) (h2 : TF kc m1 m2) : TF kc m m2 := ⟨fun c a b => (h2.1 c a b).trans (h.1 c a b), h2.2.trans h.2⟩
theorem KF.tf {kc : Nat} {m m1 : jM} (h : KF kc m m1) : TF kc m m1 := ⟨fun c _ a => h.1 c a, h.2⟩
theorem TF.v {kc : Nat} {m : jM} (hk : isK kc) (f : Nat → Int32) : TF kc m (jup m 90 f) := ⟨fun c a _ => jup_n _ _ a, by rw [jup_n _ _ (by have := hk.lt90; omega)]⟩
set_option maxHeartbeats 2000000 in
set_option maxRecDepth 20000 in
theorem s_CtryBar (kc : Nat) (hk : isK kc) (m : jM) (st : Nat → Int32) (V P : Nat) (hW : WK st V P) (hR : RK m kc st V P) (hn : ∀ s, s < V → ∃ a, a < 8 ∧ m 90 s = nI a) : vX mX0_tryBar [.ref kc, .ref 90] m (fun m1 => RK m1 kc (oneB st (vtB st (m 90)) V P) V P ∧ TF kc m m1) := by
  have hV := hW.v3
  have hP := hW.p5
  refine jX_of (L := [some (.ref kc), some (.ref 90), none]) 1 rfl rfl (by decide +kernel) rfl ?_
  refine e_iconst (v := 0) dX0_tryBar_0 rfl ?_
  refine e_istore_n (L' := [some (.ref kc), some (.ref 90), some (.int 0)]) dX0_tryBar_1 (Nat.le_of_ble_eq_true rfl) (Nat.le_of_ble_eq_true rfl) (jnl_at (i := 1) rfl) rfl ?_
  refine e_loop 2 V (fun k => [some (.ref kc), some (.ref 90), some (.int (nI k))]) (fun k => jup m 90 (va_cpy (vtB st (m 90)) (m 90) 0 0 k)) 0 (Nat.zero_le _) rfl (by rw [cpy_0, jup_id]) ?_ ?_
  · show jE _ _ 2 [some (.ref kc), some (.ref 90), some (.int (nI V))] [] (jup m 90 (va_cpy (vtB st (m 90)) (m 90) 0 0 V))
    obtain ⟨mz, hmz⟩ : ∃ y : jM, y = jup m 90 (va_cpy (vtB st (m 90)) (m 90) 0 0 V) := ⟨_, rfl⟩
    refine e_start rfl hmz.symm ?_
    have hRb : RK mz kc st V P := hR.fr (fun c a b => by rw [hmz, jup_n _ _ (by have := hk.lt90; omega)])
    refine e_iload_n dX0_tryBar_2 rfl ?_
    refine e_aload_n dX0_tryBar_3 rfl ?_
    refine e_getI dX0_tryBar_4 lkX0_19 (isK.l0 hk) rfl ?_
    rw [show mz kc 2 = nI V from hRb.vs]
    refine e_icmp_ge 32 dX0_tryBar_7 (by decide) (fun c7 => ?_) (fun h => absurd (j_done rfl rfl) h)
    refine e_aload_n dX0_tryBar_32 rfl ?_
    refine e_aload_n dX0_tryBar_33 rfl ?_
    have hRz : RK mz kc st V P := hR.fr (fun c a b => by rw [hmz, jup_n _ _ (by have := hk.lt90; omega)])
    have ez : ∀ j, j < V → mz 90 j = vtB st (m 90) j := fun j hj => by rw [hmz, jup_s, cpy_in0 hj]
    refine e_callVv (n := 1) mX0_singBar [.ref 90] dX0_tryBar_34 ckX0_80 rfl (by decide +kernel) rfl (isK.l0 hk) rfl rfl (Nat.le_of_ble_eq_true rfl) ⟨Nat.zero_le _, Nat.zero_le _⟩ (s_CsingBar kc hk mz st V P hW hRz (fun s hs => by rw [ez s hs]; exact vtB_ok hn s hs)) (fun mq hmq => ?_)
    exact e_vret dX0_tryBar_37 rfl (by
        obtain ⟨a1, a2⟩ := hmq
        rw [oneB_congr ez] at a1
        exact ⟨a1, TF.tr (m1 := mz) (by rw [hmz]; exact TF.v hk _) a2.tf⟩)
  · intro k hkV ih
    show jE _ _ 2 [some (.ref kc), some (.ref 90), some (.int (nI k))] [] (jup m 90 (va_cpy (vtB st (m 90)) (m 90) 0 0 k))
    obtain ⟨mb, hmb⟩ : ∃ y : jM, y = jup m 90 (va_cpy (vtB st (m 90)) (m 90) 0 0 k) := ⟨_, rfl⟩
    refine e_start rfl hmb.symm ?_
    have hRb : RK mb kc st V P := hR.fr (fun c a b => by rw [hmb, jup_n _ _ (by have := hk.lt90; omega)])
    refine e_iload_n dX0_tryBar_2 rfl ?_
    refine e_aload_n dX0_tryBar_3 rfl ?_
    refine e_getI dX0_tryBar_4 lkX0_19 (isK.l0 hk) rfl ?_
    rw [show mb kc 2 = nI V from hRb.vs]
    refine e_icmp_ge 32 dX0_tryBar_7 (by decide) (fun h => absurd h (j_more (N := V) rfl rfl (by omega) (by omega))) (fun c7 => ?_)
    refine e_aload_n dX0_tryBar_10 rfl ?_
    refine e_iload_n dX0_tryBar_11 rfl ?_
    refine e_aload_n dX0_tryBar_12 rfl ?_
    refine e_iload_n dX0_tryBar_13 rfl ?_
    refine e_iald dX0_tryBar_14 rfl k rfl (by omega) (by decide) ?_
    rw [show mb 90 k = m 90 k from by rw [hmb, jup_s, cpy_out (Or.inr (by omega))]]
    refine e_callVi (n := 2) mX0_can [.int (nI k), .int (m 90 k)] dX0_tryBar_15 ckX0_76 rfl (by decide +kernel) rfl (isK.l0 hk) rfl rfl (Nat.le_of_ble_eq_true rfl) ⟨Nat.zero_le _, Nat.zero_le _⟩ (s_Ccan kc hk mb st V P hV hRb k hkV (m 90 k)) (fun v15 m2 hm2 => ?_)
    rcases hm2 with ⟨rfl, ⟨rfl, q⟩ | ⟨rfl, q⟩⟩
    · refine e_if_ne 26 dX0_tryBar_18 (by decide) (fun c18 => ?_) (fun h => absurd h (by decide))
      refine e_iinc (v := nI (k + 1)) (L' := [some (.ref kc), some (.ref 90), some (.int (nI (k + 1)))]) dX0_tryBar_26 rfl (j_inc rfl) (by decide) (jnl_at (i := 1) rfl) rfl ?_
      refine e_goto 2 dX0_tryBar_29 (by decide) ?_
      refine e_start rfl ?_ ih
      rw [hmb]
      refine congrArg (jup m 90) ?_
      rw [← cpy_s0' (x := vtB st (m 90) k) (by rw [Nat.zero_add])]
      exact (upd_id (by rw [cpy_out (Or.inr (by omega))]; exact (if_pos q).symm)).symm
    · refine e_if_ne 26 dX0_tryBar_18 (by decide) (fun h => absurd h (by decide)) (fun c18 => ?_)
      refine e_aload_n dX0_tryBar_21 rfl ?_
      refine e_iload_n dX0_tryBar_22 rfl ?_
      refine e_bipush (v := 7) dX0_tryBar_23 rfl ?_
      refine e_iast dX0_tryBar_25 rfl k rfl (by omega) (by decide) (fun mw hmw => ?_)
      refine e_iinc (v := nI (k + 1)) (L' := [some (.ref kc), some (.ref 90), some (.int (nI (k + 1)))]) dX0_tryBar_26 rfl (j_inc rfl) (by decide) (jnl_at (i := 1) rfl) rfl ?_
      refine e_goto 2 dX0_tryBar_29 (by decide) ?_
      refine e_start rfl ?_ ih
      rw [hmw, hmb, jup_s, jup_jup]
      refine congrArg (jup m 90) (cpy_s0' ?_)
      rw [Nat.zero_add]
      exact (if_neg q).symm
