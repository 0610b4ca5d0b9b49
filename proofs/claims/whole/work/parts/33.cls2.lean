/-! ===== the class: rounds ===== -/
/-- what the singer s has of the tune in the bar b of a round -/
def XR (tn : Nat → Int32) (d n b : Nat) : Nat → Int32 := fun s => if s * d ≤ b ∧ b - s * d < n then tn (b - s * d) else 7
theorem XR_ok {tn : Nat → Int32} {d n b : Nat} (ht : ∀ j, j < n → ∃ a, a < 8 ∧ tn j = nI a) (s : Nat) : ∃ a, a < 8 ∧ XR tn d n b s = nI a := by
  unfold XR
  by_cases c : s * d ≤ b ∧ b - s * d < n
  · rw [if_pos c]; exact ht _ c.2
  · rw [if_neg c]; exact ⟨7, by decide, rfl⟩
theorem vt_round {st v tn : Nat → Int32} {d n b V : Nat} (hv : ∀ j, j < V → v j = XR tn d n b j) : ∀ j, j < V → vtB st v j = ntR st tn d n b V j := fun j hj => by
  unfold vtB ntR
  rw [if_pos hj, hv j hj]
  rfl
theorem ntR_ok {st tn : Nat → Int32} {d n b V : Nat} (ht : ∀ j, j < n → ∃ a, a < 8 ∧ tn j = nI a) (s : Nat) : ∃ a, a < 8 ∧ ntR st tn d n b V s = nI a := by
  show ∃ a, a < 8 ∧ (if s < V then (if canB st s (XR tn d n b s) = true then XR tn d n b s else 7) else 7) = nI a
  split
  · split
    · exact XR_ok ht s
    · exact ⟨7, by decide, rfl⟩
  · exact ⟨7, by decide, rfl⟩
theorem WK.round {st tn : Nat → Int32} {d V P n : Nat} (h : WK st V P) (ht : ∀ j, j < n → ∃ a, a < 8 ∧ tn j = nI a) : ∀ k, WK (roundB st tn d n V P k) V P
  | 0 => h
  | k + 1 => (WK.round h ht k).one fun j _ => ntR_ok ht j
set_option maxHeartbeats 2000000 in
set_option maxRecDepth 20000 in
theorem s_tryRound (m : jM) (st : Nat → Int32) (V P : Nat) (hW : WK st V P) (hR : RK m 31 st V P) (d : Nat) (hd : d ≤ 8) (n : Nat) (hn16 : n ≤ 16) (ht : ∀ j, j < n → ∃ a, a < 8 ∧ m 91 j = nI a) : vX mX3_tryRound [.ref 0, .int (nI d), .int (nI n)] m (fun m1 => RK m1 31 (roundB st (m 91) d n V P (rlen d n V)) V P ∧ TF 31 m m1) := by
  have hV := hW.v3
  have hP := hW.p5
  have hWd : (V - 1) * d ≤ 16 := Nat.mul_le_mul (show V - 1 ≤ 2 by omega) hd
  refine jX_of (L := [some (.ref 0), some (.int (nI d)), some (.int (nI n)), none, none, none, none]) 4 rfl rfl (by decide +kernel) rfl ?_
  refine e_aload_n dX3_tryRound_0 rfl ?_
  refine e_getR (o := 31) (b := 31) dX3_tryRound_1 lkX3_29 rfl rfl (by decide) rfl ?_
  refine e_getI dX3_tryRound_4 lkX3_147 rfl rfl ?_
  rw [show m 31 2 = nI V from hR.vs]
  refine e_if_ne 14 dX3_tryRound_7 (by decide) (fun c7 => ?_) (fun c7 => ?_)
  · have hV0 : ¬ V = 0 := fun z => c7 (by rw [z]; rfl)
    refine e_aload_n dX3_tryRound_14 rfl ?_
    refine e_getR (o := 31) (b := 31) dX3_tryRound_15 lkX3_29 rfl rfl (by decide) rfl ?_
    refine e_getI dX3_tryRound_18 lkX3_147 rfl rfl ?_
    rw [show m 31 2 = nI V from hR.vs]
    refine e_iconst (v := 1) dX3_tryRound_21 rfl ?_
    refine e_isub dX3_tryRound_22 ?_
    rw [show (nI V) - 1 = nI (V - 1) from j_sub rfl (show (1 : Int32) = nI 1 from rfl) (by omega)]
    refine e_iload_n dX3_tryRound_23 rfl ?_
    refine e_imul dX3_tryRound_24 ?_
    refine e_istore_n (L' := [some (.ref 0), some (.int (nI d)), some (.int (nI n)), some (.int ((nI (V - 1)) * (nI d))), none, none, none]) dX3_tryRound_25 (Nat.le_of_ble_eq_true rfl) (Nat.le_of_ble_eq_true rfl) (jnl_at (i := 2) rfl) rfl ?_
    refine e_iconst (v := 0) dX3_tryRound_26 rfl ?_
    refine e_istore (L' := [some (.ref 0), some (.int (nI d)), some (.int (nI n)), some (.int ((nI (V - 1)) * (nI d))), some (.int 0), none, none]) dX3_tryRound_27 (Nat.le_of_ble_eq_true rfl) (Nat.le_of_ble_eq_true rfl) (jnl_at (i := 3) rfl) rfl ?_
    refine e_loopS (σ := Unit) 29 ((V - 1) * d + n) (fun k _ => [some (.ref 0), some (.int (nI d)), some (.int (nI n)), some (.int ((nI (V - 1)) * (nI d))), some (.int (nI k)), none, none]) (fun k _ mm => RK mm 31 (roundB st (m 91) d n V P k) V P ∧ TF 31 m mm) 0 () (Nat.zero_le _) rfl (⟨hR, TF.rf⟩) ?_ ?_
    · intro _ mm hI
      show jE _ _ 29 [some (.ref 0), some (.int (nI d)), some (.int (nI n)), some (.int ((nI (V - 1)) * (nI d))), some (.int (nI ((V - 1) * d + n))), none, none] [] mm
      have eN : (V - 1) * d + n = rlen d n V := by unfold rlen; rw [if_neg hV0, Nat.mul_comm]; omega
      rw [eN] at hI
      refine e_iload dX3_tryRound_29 rfl ?_
      refine e_iload_n dX3_tryRound_31 rfl ?_
      refine e_iload_n dX3_tryRound_32 rfl ?_
      refine e_iadd dX3_tryRound_33 ?_
      refine e_icmp_ge 118 dX3_tryRound_34 (by decide) (fun c34 => ?_) (fun h => absurd (j_done rfl (j_add (j_mul rfl rfl) rfl)) h)
      exact e_vret dX3_tryRound_118 rfl (hI)
    · intro k hk _ mm hI ih
      show jE _ _ 29 [some (.ref 0), some (.int (nI d)), some (.int (nI n)), some (.int ((nI (V - 1)) * (nI d))), some (.int (nI k)), none, none] [] mm
      have hkn := hk
      obtain ⟨hI1, hI2⟩ := hI
      have g91 : mm 91 = m 91 := hI2.1 91 (by decide) (by decide)
      have hWk : WK (roundB st (m 91) d n V P k) V P := hW.round ht k
      refine e_iload dX3_tryRound_29 rfl ?_
      refine e_iload_n dX3_tryRound_31 rfl ?_
      refine e_iload_n dX3_tryRound_32 rfl ?_
      refine e_iadd dX3_tryRound_33 ?_
      refine e_icmp_ge 118 dX3_tryRound_34 (by decide) (fun h => absurd h (j_more (N := ((V - 1) * d) + n) rfl (j_add (j_mul rfl rfl) rfl) (by omega) (by omega))) (fun c34 => ?_)
      refine e_aload_n dX3_tryRound_37 rfl ?_
      refine e_getR (o := 90) (b := 90) dX3_tryRound_38 lkX3_48 rfl rfl (by decide) rfl ?_
      refine e_bipush (v := 7) dX3_tryRound_41 rfl ?_
      refine e_callSv (n := 2) mArr_fill [.ref 90, .int 7] dX3_tryRound_43 ckX3_272 rfl (by decide +kernel) rfl rfl (Nat.le_of_ble_eq_true rfl) ⟨Nat.zero_le _, Nat.zero_le _⟩ (s_fill3 mm 90 rfl 7) (fun mf hmf => ?_)
      refine e_iconst (v := 0) dX3_tryRound_46 rfl ?_
      refine e_istore (L' := [some (.ref 0), some (.int (nI d)), some (.int (nI n)), some (.int ((nI (V - 1)) * (nI d))), some (.int (nI k)), some (.int 0), none]) dX3_tryRound_47 (Nat.le_of_ble_eq_true rfl) (Nat.le_of_ble_eq_true rfl) (jnl_at (i := 4) rfl) rfl ?_
      refine e_loop 49 V (fun q => [some (.ref 0), some (.int (nI d)), some (.int (nI n)), some (.int ((nI (V - 1)) * (nI d))), some (.int (nI k)), some (.int (nI q)), none]) (fun q => jup mf 90 (va_cpy (XR (m 91) d n k) (mf 90) 0 0 q)) 0 (Nat.zero_le _) rfl (by rw [cpy_0, jup_id]) ?_ ?_
      · show jE _ _ 49 [some (.ref 0), some (.int (nI d)), some (.int (nI n)), some (.int ((nI (V - 1)) * (nI d))), some (.int (nI k)), some (.int (nI V)), none] [] (jup mf 90 (va_cpy (XR (m 91) d n k) (mf 90) 0 0 V))
        obtain ⟨mx, hmx⟩ : ∃ y : jM, y = jup mf 90 (va_cpy (XR (m 91) d n k) (mf 90) 0 0 V) := ⟨_, rfl⟩
        refine e_start rfl hmx.symm ?_
        have gS : mx 31 = mm 31 := by rw [hmx, jup_n _ _ (by decide), ← hmf, jup_n _ _ (by decide)]
        refine e_iload dX3_tryRound_49 rfl ?_
        refine e_aload_n dX3_tryRound_51 rfl ?_
        refine e_getR (o := 31) (b := 31) dX3_tryRound_52 lkX3_29 rfl rfl (by decide) rfl ?_
        refine e_getI dX3_tryRound_55 lkX3_147 rfl rfl ?_
        rw [show mx 31 2 = nI V from by rw [gS]; exact hI1.vs]
        refine e_icmp_ge 101 dX3_tryRound_58 (by decide) (fun c58 => ?_) (fun h => absurd (j_done rfl rfl) h)
        refine e_aload_n dX3_tryRound_101 rfl ?_
        refine e_getR (o := 31) (b := 31) dX3_tryRound_102 lkX3_29 rfl rfl (by decide) rfl ?_
        refine e_aload_n dX3_tryRound_105 rfl ?_
        refine e_getR (o := 90) (b := 90) dX3_tryRound_106 lkX3_48 rfl rfl (by decide) rfl ?_
        have hv : ∀ j, j < V → mx 90 j = XR (m 91) d n k j := fun j hj => by rw [hmx, jup_s, cpy_in0 hj]
        have hn : ∀ j, j < V → ∃ a, a < 8 ∧ mx 90 j = nI a := fun j hj => by rw [hv j hj]; exact XR_ok ht j
        have hfr : TF 31 mm mx := TF.tr (m1 := mf) (by rw [← hmf]; exact TF.v k31 _) (by rw [hmx]; exact TF.v k31 _)
        have hRk : RK mx 31 (roundB st (m 91) d n V P k) V P := hI1.fr (fun c a b => by rw [hmx, jup_n _ _ (by omega), ← hmf, jup_n _ _ (by omega)])
        refine e_callVv (n := 1) mX0_tryBar [.ref 90] dX3_tryRound_109 ckX3_278 rfl (by decide +kernel) rfl rfl rfl rfl (Nat.le_of_ble_eq_true rfl) ⟨Nat.zero_le _, Nat.zero_le _⟩ (s_CtryBar 31 k31 mx (roundB st (m 91) d n V P k) V P hWk hRk hn) (fun mq hmq => ?_)
        refine e_iinc (v := nI (k + 1)) (L' := [some (.ref 0), some (.int (nI d)), some (.int (nI n)), some (.int ((nI (V - 1)) * (nI d))), some (.int (nI (k + 1))), some (.int (nI V)), none]) dX3_tryRound_112 rfl (j_inc rfl) (by decide) (jnl_at (i := 3) rfl) rfl ?_
        refine e_goto 29 dX3_tryRound_115 (by decide) ?_
        refine e_weak [some (.ref 0), some (.int (nI d)), some (.int (nI n)), some (.int ((nI (V - 1)) * (nI d))), some (.int (nI (k + 1))), none, none] (by simp [jle]) ?_
        obtain ⟨a1, a2⟩ := hmq
        rw [oneB_congr (vt_round (tn := m 91) hv)] at a1
        exact ih () mq ⟨a1, hI2.tr (hfr.tr a2)⟩
      · intro q hq ihq
        show jE _ _ 49 [some (.ref 0), some (.int (nI d)), some (.int (nI n)), some (.int ((nI (V - 1)) * (nI d))), some (.int (nI k)), some (.int (nI q)), none] [] (jup mf 90 (va_cpy (XR (m 91) d n k) (mf 90) 0 0 q))
        obtain ⟨my, hmy⟩ : ∃ y : jM, y = jup mf 90 (va_cpy (XR (m 91) d n k) (mf 90) 0 0 q) := ⟨_, rfl⟩
        refine e_start rfl hmy.symm ?_
        have hqd : q * d ≤ 16 := Nat.mul_le_mul (show q ≤ 2 by omega) hd
        have gS : my 31 = mm 31 := by rw [hmy, jup_n _ _ (by decide), ← hmf, jup_n _ _ (by decide)]
        have gT : my 91 = m 91 := by rw [hmy, jup_n _ _ (by decide), ← hmf, jup_n _ _ (by decide), g91]
        have gI := inN_sub (a := k) (b := q * d) (n := n) (by omega) (by omega) (by omega)
        refine e_iload dX3_tryRound_49 rfl ?_
        refine e_aload_n dX3_tryRound_51 rfl ?_
        refine e_getR (o := 31) (b := 31) dX3_tryRound_52 lkX3_29 rfl rfl (by decide) rfl ?_
        refine e_getI dX3_tryRound_55 lkX3_147 rfl rfl ?_
        rw [show my 31 2 = nI V from by rw [gS]; exact hI1.vs]
        refine e_icmp_ge 101 dX3_tryRound_58 (by decide) (fun h => absurd h (j_more (N := V) rfl rfl (by omega) (by omega))) (fun c58 => ?_)
        refine e_iload dX3_tryRound_61 rfl ?_
        refine e_iload dX3_tryRound_63 rfl ?_
        refine e_iload_n dX3_tryRound_65 rfl ?_
        refine e_imul dX3_tryRound_66 ?_
        refine e_isub dX3_tryRound_67 ?_
        rw [show (nI k) - ((nI q) * (nI d)) = nI k - nI (q * d) from by rw [show nI q * nI d = nI (q * d) from j_mul rfl rfl]]
        refine e_istore (L' := [some (.ref 0), some (.int (nI d)), some (.int (nI n)), some (.int ((nI (V - 1)) * (nI d))), some (.int (nI k)), some (.int (nI q)), some (.int (nI k - nI (q * d)))]) dX3_tryRound_68 (Nat.le_of_ble_eq_true rfl) (Nat.le_of_ble_eq_true rfl) (jnl_at (i := 5) rfl) rfl ?_
        refine e_iload dX3_tryRound_70 rfl ?_
        refine e_if_lt 95 dX3_tryRound_72 (by decide) (fun c72 => ?_) (fun c72 => ?_)
        · refine e_iinc (v := nI (q + 1)) (L' := [some (.ref 0), some (.int (nI d)), some (.int (nI n)), some (.int ((nI (V - 1)) * (nI d))), some (.int (nI k)), some (.int (nI (q + 1))), some (.int (nI k - nI (q * d)))]) dX3_tryRound_95 rfl (j_inc rfl) (by decide) (jnl_at (i := 4) rfl) rfl ?_
          refine e_goto 49 dX3_tryRound_98 (by decide) ?_
          refine e_weak [some (.ref 0), some (.int (nI d)), some (.int (nI n)), some (.int ((nI (V - 1)) * (nI d))), some (.int (nI k)), some (.int (nI (q + 1))), none] (by simp [jle]) ?_
          refine e_start rfl ?_ ihq
          rw [hmy]
          refine congrArg (jup mf 90) ?_
          have e7 : XR (m 91) d n k q = 7 := if_neg (fun z => by first | exact absurd (gI.mpr z).1 (Int32.not_le.mpr c72) | exact absurd (gI.mpr z).2 (Int32.not_lt.mpr c78))
          rw [← cpy_s0' (x := XR (m 91) d n k q) (by rw [Nat.zero_add])]
          exact (upd_id (by rw [cpy_out (Or.inr (by omega)), e7, ← hmf, jup_s, cpy_in0 (by omega)])).symm
        · refine e_iload dX3_tryRound_75 rfl ?_
          refine e_iload_n dX3_tryRound_77 rfl ?_
          refine e_icmp_ge 95 dX3_tryRound_78 (by decide) (fun c78 => ?_) (fun c78 => ?_)
          · refine e_iinc (v := nI (q + 1)) (L' := [some (.ref 0), some (.int (nI d)), some (.int (nI n)), some (.int ((nI (V - 1)) * (nI d))), some (.int (nI k)), some (.int (nI (q + 1))), some (.int (nI k - nI (q * d)))]) dX3_tryRound_95 rfl (j_inc rfl) (by decide) (jnl_at (i := 4) rfl) rfl ?_
            refine e_goto 49 dX3_tryRound_98 (by decide) ?_
            refine e_weak [some (.ref 0), some (.int (nI d)), some (.int (nI n)), some (.int ((nI (V - 1)) * (nI d))), some (.int (nI k)), some (.int (nI (q + 1))), none] (by simp [jle]) ?_
            refine e_start rfl ?_ ihq
            rw [hmy]
            refine congrArg (jup mf 90) ?_
            have e7 : XR (m 91) d n k q = 7 := if_neg (fun z => by first | exact absurd (gI.mpr z).1 (Int32.not_le.mpr c72) | exact absurd (gI.mpr z).2 (Int32.not_lt.mpr c78))
            rw [← cpy_s0' (x := XR (m 91) d n k q) (by rw [Nat.zero_add])]
            exact (upd_id (by rw [cpy_out (Or.inr (by omega)), e7, ← hmf, jup_s, cpy_in0 (by omega)])).symm
          · have hc : q * d ≤ k ∧ k - q * d < n := gI.mp ⟨Int32.not_lt.mp c72, Int32.not_le.mp c78⟩
            refine e_aload_n dX3_tryRound_81 rfl ?_
            refine e_getR (o := 90) (b := 90) dX3_tryRound_82 lkX3_48 rfl rfl (by decide) rfl ?_
            refine e_iload dX3_tryRound_85 rfl ?_
            refine e_aload_n dX3_tryRound_87 rfl ?_
            refine e_getR (o := 91) (b := 91) dX3_tryRound_88 lkX3_52 rfl rfl (by decide) rfl ?_
            refine e_iload dX3_tryRound_91 rfl ?_
            refine e_iald dX3_tryRound_93 rfl (k - q * d) (j_sub rfl rfl hc.1) (by have := hc.2; omega) (by decide) ?_
            rw [show my 91 (k - q * d) = m 91 (k - q * d) from by rw [gT]]
            refine e_iast dX3_tryRound_94 rfl q rfl (by omega) (by decide) (fun mw hmw => ?_)
            refine e_iinc (v := nI (q + 1)) (L' := [some (.ref 0), some (.int (nI d)), some (.int (nI n)), some (.int ((nI (V - 1)) * (nI d))), some (.int (nI k)), some (.int (nI (q + 1))), some (.int (nI k - nI (q * d)))]) dX3_tryRound_95 rfl (j_inc rfl) (by decide) (jnl_at (i := 4) rfl) rfl ?_
            refine e_goto 49 dX3_tryRound_98 (by decide) ?_
            refine e_weak [some (.ref 0), some (.int (nI d)), some (.int (nI n)), some (.int ((nI (V - 1)) * (nI d))), some (.int (nI k)), some (.int (nI (q + 1))), none] (by simp [jle]) ?_
            refine e_start rfl ?_ ihq
            rw [hmw, hmy, jup_s, jup_jup]
            refine congrArg (jup mf 90) (cpy_s0' ?_)
            rw [Nat.zero_add]
            exact (if_pos hc).symm
  · have hV0 : V = 0 := (j_eq (by omega) (by decide) (b := 0)).mp (Classical.byContradiction fun z => z (by first | exact c7 | exact Classical.byContradiction c7))
    refine e_iconst (v := 0) dX3_tryRound_10 rfl ?_
    refine e_goto 25 dX3_tryRound_11 (by decide) ?_
    refine e_istore_n (L' := [some (.ref 0), some (.int (nI d)), some (.int (nI n)), some (.int 0), none, none, none]) dX3_tryRound_25 (Nat.le_of_ble_eq_true rfl) (Nat.le_of_ble_eq_true rfl) (jnl_at (i := 2) rfl) rfl ?_
    refine e_iconst (v := 0) dX3_tryRound_26 rfl ?_
    refine e_istore (L' := [some (.ref 0), some (.int (nI d)), some (.int (nI n)), some (.int 0), some (.int 0), none, none]) dX3_tryRound_27 (Nat.le_of_ble_eq_true rfl) (Nat.le_of_ble_eq_true rfl) (jnl_at (i := 3) rfl) rfl ?_
    refine e_loopS (σ := Unit) 29 (0 + n) (fun k _ => [some (.ref 0), some (.int (nI d)), some (.int (nI n)), some (.int 0), some (.int (nI k)), none, none]) (fun k _ mm => RK mm 31 (roundB st (m 91) d n V P k) V P ∧ TF 31 m mm) 0 () (Nat.zero_le _) rfl (⟨hR, TF.rf⟩) ?_ ?_
    · intro _ mm hI
      show jE _ _ 29 [some (.ref 0), some (.int (nI d)), some (.int (nI n)), some (.int 0), some (.int (nI (0 + n))), none, none] [] mm
      have eN : 0 + n = rlen d n V := by unfold rlen; rw [if_pos hV0]; omega
      rw [eN] at hI
      refine e_iload dX3_tryRound_29 rfl ?_
      refine e_iload_n dX3_tryRound_31 rfl ?_
      refine e_iload_n dX3_tryRound_32 rfl ?_
      refine e_iadd dX3_tryRound_33 ?_
      refine e_icmp_ge 118 dX3_tryRound_34 (by decide) (fun c34 => ?_) (fun h => absurd (j_done rfl (j_add rfl rfl)) h)
      exact e_vret dX3_tryRound_118 rfl (hI)
    · intro k hk _ mm hI ih
      show jE _ _ 29 [some (.ref 0), some (.int (nI d)), some (.int (nI n)), some (.int 0), some (.int (nI k)), none, none] [] mm
      have hkn := hk
      obtain ⟨hI1, hI2⟩ := hI
      have g91 : mm 91 = m 91 := hI2.1 91 (by decide) (by decide)
      have hWk : WK (roundB st (m 91) d n V P k) V P := hW.round ht k
      refine e_iload dX3_tryRound_29 rfl ?_
      refine e_iload_n dX3_tryRound_31 rfl ?_
      refine e_iload_n dX3_tryRound_32 rfl ?_
      refine e_iadd dX3_tryRound_33 ?_
      refine e_icmp_ge 118 dX3_tryRound_34 (by decide) (fun h => absurd h (j_more (N := 0 + n) rfl (j_add rfl rfl) (by omega) (by omega))) (fun c34 => ?_)
      refine e_aload_n dX3_tryRound_37 rfl ?_
      refine e_getR (o := 90) (b := 90) dX3_tryRound_38 lkX3_48 rfl rfl (by decide) rfl ?_
      refine e_bipush (v := 7) dX3_tryRound_41 rfl ?_
      refine e_callSv (n := 2) mArr_fill [.ref 90, .int 7] dX3_tryRound_43 ckX3_272 rfl (by decide +kernel) rfl rfl (Nat.le_of_ble_eq_true rfl) ⟨Nat.zero_le _, Nat.zero_le _⟩ (s_fill3 mm 90 rfl 7) (fun mf hmf => ?_)
      refine e_iconst (v := 0) dX3_tryRound_46 rfl ?_
      refine e_istore (L' := [some (.ref 0), some (.int (nI d)), some (.int (nI n)), some (.int 0), some (.int (nI k)), some (.int 0), none]) dX3_tryRound_47 (Nat.le_of_ble_eq_true rfl) (Nat.le_of_ble_eq_true rfl) (jnl_at (i := 4) rfl) rfl ?_
      refine e_loop 49 V (fun q => [some (.ref 0), some (.int (nI d)), some (.int (nI n)), some (.int 0), some (.int (nI k)), some (.int (nI q)), none]) (fun q => jup mf 90 (va_cpy (XR (m 91) d n k) (mf 90) 0 0 q)) 0 (Nat.zero_le _) rfl (by rw [cpy_0, jup_id]) ?_ ?_
      · show jE _ _ 49 [some (.ref 0), some (.int (nI d)), some (.int (nI n)), some (.int 0), some (.int (nI k)), some (.int (nI V)), none] [] (jup mf 90 (va_cpy (XR (m 91) d n k) (mf 90) 0 0 V))
        obtain ⟨mx, hmx⟩ : ∃ y : jM, y = jup mf 90 (va_cpy (XR (m 91) d n k) (mf 90) 0 0 V) := ⟨_, rfl⟩
        refine e_start rfl hmx.symm ?_
        have gS : mx 31 = mm 31 := by rw [hmx, jup_n _ _ (by decide), ← hmf, jup_n _ _ (by decide)]
        refine e_iload dX3_tryRound_49 rfl ?_
        refine e_aload_n dX3_tryRound_51 rfl ?_
        refine e_getR (o := 31) (b := 31) dX3_tryRound_52 lkX3_29 rfl rfl (by decide) rfl ?_
        refine e_getI dX3_tryRound_55 lkX3_147 rfl rfl ?_
        rw [show mx 31 2 = nI V from by rw [gS]; exact hI1.vs]
        refine e_icmp_ge 101 dX3_tryRound_58 (by decide) (fun c58 => ?_) (fun h => absurd (j_done rfl rfl) h)
        refine e_aload_n dX3_tryRound_101 rfl ?_
        refine e_getR (o := 31) (b := 31) dX3_tryRound_102 lkX3_29 rfl rfl (by decide) rfl ?_
        refine e_aload_n dX3_tryRound_105 rfl ?_
        refine e_getR (o := 90) (b := 90) dX3_tryRound_106 lkX3_48 rfl rfl (by decide) rfl ?_
        have hv : ∀ j, j < V → mx 90 j = XR (m 91) d n k j := fun j hj => by rw [hmx, jup_s, cpy_in0 hj]
        have hn : ∀ j, j < V → ∃ a, a < 8 ∧ mx 90 j = nI a := fun j hj => by rw [hv j hj]; exact XR_ok ht j
        have hfr : TF 31 mm mx := TF.tr (m1 := mf) (by rw [← hmf]; exact TF.v k31 _) (by rw [hmx]; exact TF.v k31 _)
        have hRk : RK mx 31 (roundB st (m 91) d n V P k) V P := hI1.fr (fun c a b => by rw [hmx, jup_n _ _ (by omega), ← hmf, jup_n _ _ (by omega)])
        refine e_callVv (n := 1) mX0_tryBar [.ref 90] dX3_tryRound_109 ckX3_278 rfl (by decide +kernel) rfl rfl rfl rfl (Nat.le_of_ble_eq_true rfl) ⟨Nat.zero_le _, Nat.zero_le _⟩ (s_CtryBar 31 k31 mx (roundB st (m 91) d n V P k) V P hWk hRk hn) (fun mq hmq => ?_)
        refine e_iinc (v := nI (k + 1)) (L' := [some (.ref 0), some (.int (nI d)), some (.int (nI n)), some (.int 0), some (.int (nI (k + 1))), some (.int (nI V)), none]) dX3_tryRound_112 rfl (j_inc rfl) (by decide) (jnl_at (i := 3) rfl) rfl ?_
        refine e_goto 29 dX3_tryRound_115 (by decide) ?_
        refine e_weak [some (.ref 0), some (.int (nI d)), some (.int (nI n)), some (.int 0), some (.int (nI (k + 1))), none, none] (by simp [jle]) ?_
        obtain ⟨a1, a2⟩ := hmq
        rw [oneB_congr (vt_round (tn := m 91) hv)] at a1
        exact ih () mq ⟨a1, hI2.tr (hfr.tr a2)⟩
      · intro q hq ihq
        show jE _ _ 49 [some (.ref 0), some (.int (nI d)), some (.int (nI n)), some (.int 0), some (.int (nI k)), some (.int (nI q)), none] [] (jup mf 90 (va_cpy (XR (m 91) d n k) (mf 90) 0 0 q))
        obtain ⟨my, hmy⟩ : ∃ y : jM, y = jup mf 90 (va_cpy (XR (m 91) d n k) (mf 90) 0 0 q) := ⟨_, rfl⟩
        refine e_start rfl hmy.symm ?_
        have hqd : q * d ≤ 16 := Nat.mul_le_mul (show q ≤ 2 by omega) hd
        have gS : my 31 = mm 31 := by rw [hmy, jup_n _ _ (by decide), ← hmf, jup_n _ _ (by decide)]
        have gT : my 91 = m 91 := by rw [hmy, jup_n _ _ (by decide), ← hmf, jup_n _ _ (by decide), g91]
        have gI := inN_sub (a := k) (b := q * d) (n := n) (by omega) (by omega) (by omega)
        refine e_iload dX3_tryRound_49 rfl ?_
        refine e_aload_n dX3_tryRound_51 rfl ?_
        refine e_getR (o := 31) (b := 31) dX3_tryRound_52 lkX3_29 rfl rfl (by decide) rfl ?_
        refine e_getI dX3_tryRound_55 lkX3_147 rfl rfl ?_
        rw [show my 31 2 = nI V from by rw [gS]; exact hI1.vs]
        refine e_icmp_ge 101 dX3_tryRound_58 (by decide) (fun h => absurd h (j_more (N := V) rfl rfl (by omega) (by omega))) (fun c58 => ?_)
        refine e_iload dX3_tryRound_61 rfl ?_
        refine e_iload dX3_tryRound_63 rfl ?_
        refine e_iload_n dX3_tryRound_65 rfl ?_
        refine e_imul dX3_tryRound_66 ?_
        refine e_isub dX3_tryRound_67 ?_
        rw [show (nI k) - ((nI q) * (nI d)) = nI k - nI (q * d) from by rw [show nI q * nI d = nI (q * d) from j_mul rfl rfl]]
        refine e_istore (L' := [some (.ref 0), some (.int (nI d)), some (.int (nI n)), some (.int 0), some (.int (nI k)), some (.int (nI q)), some (.int (nI k - nI (q * d)))]) dX3_tryRound_68 (Nat.le_of_ble_eq_true rfl) (Nat.le_of_ble_eq_true rfl) (jnl_at (i := 5) rfl) rfl ?_
        refine e_iload dX3_tryRound_70 rfl ?_
        refine e_if_lt 95 dX3_tryRound_72 (by decide) (fun c72 => ?_) (fun c72 => ?_)
        · refine e_iinc (v := nI (q + 1)) (L' := [some (.ref 0), some (.int (nI d)), some (.int (nI n)), some (.int 0), some (.int (nI k)), some (.int (nI (q + 1))), some (.int (nI k - nI (q * d)))]) dX3_tryRound_95 rfl (j_inc rfl) (by decide) (jnl_at (i := 4) rfl) rfl ?_
          refine e_goto 49 dX3_tryRound_98 (by decide) ?_
          refine e_weak [some (.ref 0), some (.int (nI d)), some (.int (nI n)), some (.int 0), some (.int (nI k)), some (.int (nI (q + 1))), none] (by simp [jle]) ?_
          refine e_start rfl ?_ ihq
          rw [hmy]
          refine congrArg (jup mf 90) ?_
          have e7 : XR (m 91) d n k q = 7 := if_neg (fun z => by first | exact absurd (gI.mpr z).1 (Int32.not_le.mpr c72) | exact absurd (gI.mpr z).2 (Int32.not_lt.mpr c78))
          rw [← cpy_s0' (x := XR (m 91) d n k q) (by rw [Nat.zero_add])]
          exact (upd_id (by rw [cpy_out (Or.inr (by omega)), e7, ← hmf, jup_s, cpy_in0 (by omega)])).symm
        · refine e_iload dX3_tryRound_75 rfl ?_
          refine e_iload_n dX3_tryRound_77 rfl ?_
          refine e_icmp_ge 95 dX3_tryRound_78 (by decide) (fun c78 => ?_) (fun c78 => ?_)
          · refine e_iinc (v := nI (q + 1)) (L' := [some (.ref 0), some (.int (nI d)), some (.int (nI n)), some (.int 0), some (.int (nI k)), some (.int (nI (q + 1))), some (.int (nI k - nI (q * d)))]) dX3_tryRound_95 rfl (j_inc rfl) (by decide) (jnl_at (i := 4) rfl) rfl ?_
            refine e_goto 49 dX3_tryRound_98 (by decide) ?_
            refine e_weak [some (.ref 0), some (.int (nI d)), some (.int (nI n)), some (.int 0), some (.int (nI k)), some (.int (nI (q + 1))), none] (by simp [jle]) ?_
            refine e_start rfl ?_ ihq
            rw [hmy]
            refine congrArg (jup mf 90) ?_
            have e7 : XR (m 91) d n k q = 7 := if_neg (fun z => by first | exact absurd (gI.mpr z).1 (Int32.not_le.mpr c72) | exact absurd (gI.mpr z).2 (Int32.not_lt.mpr c78))
            rw [← cpy_s0' (x := XR (m 91) d n k q) (by rw [Nat.zero_add])]
            exact (upd_id (by rw [cpy_out (Or.inr (by omega)), e7, ← hmf, jup_s, cpy_in0 (by omega)])).symm
          · have hc : q * d ≤ k ∧ k - q * d < n := gI.mp ⟨Int32.not_lt.mp c72, Int32.not_le.mp c78⟩
            refine e_aload_n dX3_tryRound_81 rfl ?_
            refine e_getR (o := 90) (b := 90) dX3_tryRound_82 lkX3_48 rfl rfl (by decide) rfl ?_
            refine e_iload dX3_tryRound_85 rfl ?_
            refine e_aload_n dX3_tryRound_87 rfl ?_
            refine e_getR (o := 91) (b := 91) dX3_tryRound_88 lkX3_52 rfl rfl (by decide) rfl ?_
            refine e_iload dX3_tryRound_91 rfl ?_
            refine e_iald dX3_tryRound_93 rfl (k - q * d) (j_sub rfl rfl hc.1) (by have := hc.2; omega) (by decide) ?_
            rw [show my 91 (k - q * d) = m 91 (k - q * d) from by rw [gT]]
            refine e_iast dX3_tryRound_94 rfl q rfl (by omega) (by decide) (fun mw hmw => ?_)
            refine e_iinc (v := nI (q + 1)) (L' := [some (.ref 0), some (.int (nI d)), some (.int (nI n)), some (.int 0), some (.int (nI k)), some (.int (nI (q + 1))), some (.int (nI k - nI (q * d)))]) dX3_tryRound_95 rfl (j_inc rfl) (by decide) (jnl_at (i := 4) rfl) rfl ?_
            refine e_goto 49 dX3_tryRound_98 (by decide) ?_
            refine e_weak [some (.ref 0), some (.int (nI d)), some (.int (nI n)), some (.int 0), some (.int (nI k)), some (.int (nI (q + 1))), none] (by simp [jle]) ?_
            refine e_start rfl ?_ ihq
            rw [hmw, hmy, jup_s, jup_jup]
            refine congrArg (jup mf 90) (cpy_s0' ?_)
            rw [Nat.zero_add]
            exact (if_pos hc).symm
