/-! ===== the class: what is foretold ===== -/
theorem bit01 : ∀ c k, c < 256 → k < 16 → ((nI c >>> (nI k &&& 31)) &&& 1 = 1 ∨ (nI c >>> (nI k &&& 31)) &&& 1 = 0) := fun c k hc hk =>
  co2 (P := fun c k => (nI c >>> (nI k &&& 31)) &&& 1 = 1 ∨ (nI c >>> (nI k &&& 31)) &&& 1 = 0) (a := 256) (b := 16) (by decide) (fun q hq => co_dec (P := fun q => (nI (q / 16) >>> (nI (q % 16) &&& 31)) &&& 1 = 1 ∨ (nI (q / 16) >>> (nI (q % 16) &&& 31)) &&& 1 = 0) (by decide +kernel) hq) hc hk
theorem canB_7 (st : Nat → Int32) (k : Nat) : canB st k 7 = true := rfl
theorem k31 : isK 31 := Or.inr (Or.inl rfl)
theorem k20 : isK 20 := Or.inl rfl
/-- what one sings in a bar, whether it coughs there or not -/
theorem vt_alone {st v tn : Nat → Int32} {s V k : Nat} {b : Bool} (hV : V ≤ 3) (hv : ∀ j, j < 3 → v j = if j = s ∧ b = false then tn k else 7) : ∀ j, j < V → vtB st v j = ntS s (if b = true ∨ ¬ canB st s (tn k) = true then 7 else tn k) j := fun j hj => by
  have e := hv j (by omega)
  unfold vtB ntS
  by_cases js : j = s
  · subst js
    cases b
    · have e' : v j = tn k := e.trans (if_pos ⟨rfl, rfl⟩)
      rw [e', if_pos rfl]
      by_cases c : canB st j (tn k) = true
      · rw [if_pos c, if_neg (fun z => z.elim (by decide) (fun w => w c))]
      · rw [if_neg c, if_pos (Or.inr c)]
    · have e' : v j = 7 := e.trans (if_neg (fun z => absurd z.2 (by decide)))
      rw [e', if_pos rfl, if_pos (canB_7 st j), if_pos (Or.inl rfl)]
  · have e' : v j = 7 := e.trans (if_neg (fun z => js z.1))
    rw [e', if_neg js, if_pos (canB_7 st j)]
theorem WK.alone {st tn : Nat → Int32} {s : Nat} {c : Int32} {V P n : Nat} (h : WK st V P) (ht : ∀ j, j < n → ∃ a, a < 8 ∧ tn j = nI a) : ∀ k, k ≤ n → WK (aloneB st s tn c V P k) V P
  | 0, _ => h
  | k + 1, hk => (WK.alone h ht k (by omega)).one fun j hj => by
    unfold ntS
    split
    · split
      · exact ⟨7, by decide, rfl⟩
      · exact ht k (by omega)
    · exact ⟨7, by decide, rfl⟩
set_option maxHeartbeats 2000000 in
set_option maxRecDepth 20000 in
theorem s_trySolo (m : jM) (st : Nat → Int32) (V P : Nat) (hW : WK st V P) (hR : RK m 31 st V P) (s : Nat) (hs : s < V) (n : Nat) (hn16 : n ≤ 16) (ht : ∀ j, j < n → ∃ a, a < 8 ∧ m 91 j = nI a) (ci : Nat) (hci : ci < 256) : vX mX3_trySolo [.ref 0, .int (nI s), .int (nI n), .int (nI ci)] m (fun m1 => RK m1 31 (aloneB st s (m 91) (nI ci) V P n) V P ∧ TF 31 m m1) := by
  have hV := hW.v3
  have hP := hW.p5
  refine jX_of (L := [some (.ref 0), some (.int (nI s)), some (.int (nI n)), some (.int (nI ci)), none]) 1 rfl rfl (by decide +kernel) rfl ?_
  refine e_iconst (v := 0) dX3_trySolo_0 rfl ?_
  refine e_istore (L' := [some (.ref 0), some (.int (nI s)), some (.int (nI n)), some (.int (nI ci)), some (.int 0)]) dX3_trySolo_1 (Nat.le_of_ble_eq_true rfl) (Nat.le_of_ble_eq_true rfl) (jnl_at (i := 3) rfl) rfl ?_
  refine e_loopS (σ := Unit) 3 n (fun k _ => [some (.ref 0), some (.int (nI s)), some (.int (nI n)), some (.int (nI ci)), some (.int (nI k))]) (fun k _ mm => RK mm 31 (aloneB st s (m 91) (nI ci) V P k) V P ∧ TF 31 m mm) 0 () (Nat.zero_le _) rfl (⟨hR, TF.rf⟩) ?_ ?_
  · intro _ mm hI
    show jE _ _ 3 [some (.ref 0), some (.int (nI s)), some (.int (nI n)), some (.int (nI ci)), some (.int (nI n))] [] mm
    refine e_iload dX3_trySolo_3 rfl ?_
    refine e_iload_n dX3_trySolo_5 rfl ?_
    refine e_icmp_ge 57 dX3_trySolo_6 (by decide) (fun c6 => ?_) (fun h => absurd (j_done rfl rfl) h)
    exact e_vret dX3_trySolo_57 rfl (hI)
  · intro k hk _ mm hI ih
    show jE _ _ 3 [some (.ref 0), some (.int (nI s)), some (.int (nI n)), some (.int (nI ci)), some (.int (nI k))] [] mm
    have hkn := hk
    obtain ⟨hI1, hI2⟩ := hI
    have g91 : mm 91 = m 91 := hI2.1 91 (by decide) (by decide)
    have hWk : WK (aloneB st s (m 91) (nI ci) V P k) V P := hW.alone ht k (by omega)
    refine e_iload dX3_trySolo_3 rfl ?_
    refine e_iload_n dX3_trySolo_5 rfl ?_
    refine e_icmp_ge 57 dX3_trySolo_6 (by decide) (fun h => absurd h (j_more (N := n) rfl rfl (by omega) (by omega))) (fun c6 => ?_)
    refine e_aload_n dX3_trySolo_9 rfl ?_
    refine e_getR (o := 90) (b := 90) dX3_trySolo_10 lkX3_48 rfl rfl (by decide) rfl ?_
    refine e_bipush (v := 7) dX3_trySolo_13 rfl ?_
    refine e_callSv (n := 2) mArr_fill [.ref 90, .int 7] dX3_trySolo_15 ckX3_272 rfl (by decide +kernel) rfl rfl (Nat.le_of_ble_eq_true rfl) ⟨Nat.zero_le _, Nat.zero_le _⟩ (s_fill3 mm 90 rfl 7) (fun mf hmf => ?_)
    refine e_iload_n dX3_trySolo_18 rfl ?_
    refine e_iload dX3_trySolo_19 rfl ?_
    refine e_ishr dX3_trySolo_21 ?_
    refine e_iconst (v := 1) dX3_trySolo_22 rfl ?_
    refine e_iand dX3_trySolo_23 ?_
    refine e_if_ne 40 dX3_trySolo_24 (by decide) (fun c24 => ?_) (fun c24 => ?_)
    · have hB : btI (nI ci) (nI k) = true := btI_t ((bit01 ci k hci (by omega)).elim id (fun z => absurd z c24))
      refine e_aload_n dX3_trySolo_40 rfl ?_
      refine e_getR (o := 31) (b := 31) dX3_trySolo_41 lkX3_29 rfl rfl (by decide) rfl ?_
      refine e_aload_n dX3_trySolo_44 rfl ?_
      refine e_getR (o := 90) (b := 90) dX3_trySolo_45 lkX3_48 rfl rfl (by decide) rfl ?_
      have hv : ∀ j, j < 3 → mf 90 j = if j = s ∧ btI (nI ci) (nI k) = false then m 91 k else 7 := fun j hj => by
        rw [hB, if_neg (fun z => absurd z.2 (by decide)), ← hmf, jup_s, cpy_in0 hj]
      have hn : ∀ j, j < V → ∃ a, a < 8 ∧ mf 90 j = nI a := fun j hj => by
        rw [hv j (by omega)]
        split
        · exact ht k hkn
        · exact ⟨7, by decide, rfl⟩
      have hfr : TF 31 mm mf := by rw [← hmf]; exact TF.v k31 _
      have hRk : RK mf 31 (aloneB st s (m 91) (nI ci) V P k) V P := hI1.fr (fun c a b => by rw [← hmf, jup_n _ _ (by omega)])
      refine e_callVv (n := 1) mX0_tryBar [.ref 90] dX3_trySolo_48 ckX3_278 rfl (by decide +kernel) rfl rfl rfl rfl (Nat.le_of_ble_eq_true rfl) ⟨Nat.zero_le _, Nat.zero_le _⟩ (s_CtryBar 31 k31 mf (aloneB st s (m 91) (nI ci) V P k) V P hWk hRk hn) (fun mq hmq => ?_)
      refine e_iinc (v := nI (k + 1)) (L' := [some (.ref 0), some (.int (nI s)), some (.int (nI n)), some (.int (nI ci)), some (.int (nI (k + 1)))]) dX3_trySolo_51 rfl (j_inc rfl) (by decide) (jnl_at (i := 3) rfl) rfl ?_
      refine e_goto 3 dX3_trySolo_54 (by decide) ?_
      obtain ⟨a1, a2⟩ := hmq
      rw [oneB_congr (vt_alone (tn := m 91) hV hv)] at a1
      exact ih () mq ⟨a1, hI2.tr (hfr.tr a2)⟩
    · have hB : btI (nI ci) (nI k) = false := btI_f (fun z => by rw [z] at c24; exact absurd c24 (by decide))
      refine e_aload_n dX3_trySolo_27 rfl ?_
      refine e_getR (o := 90) (b := 90) dX3_trySolo_28 lkX3_48 rfl rfl (by decide) rfl ?_
      refine e_iload_n dX3_trySolo_31 rfl ?_
      refine e_aload_n dX3_trySolo_32 rfl ?_
      refine e_getR (o := 91) (b := 91) dX3_trySolo_33 lkX3_52 rfl rfl (by decide) rfl ?_
      refine e_iload dX3_trySolo_36 rfl ?_
      refine e_iald dX3_trySolo_38 rfl k rfl (by omega) (by decide) ?_
      rw [show mf 91 k = m 91 k from by rw [← hmf, jup_n _ _ (by decide), g91]]
      refine e_iast dX3_trySolo_39 rfl s rfl (by omega) (by decide) (fun mw hmw => ?_)
      refine e_aload_n dX3_trySolo_40 rfl ?_
      refine e_getR (o := 31) (b := 31) dX3_trySolo_41 lkX3_29 rfl rfl (by decide) rfl ?_
      refine e_aload_n dX3_trySolo_44 rfl ?_
      refine e_getR (o := 90) (b := 90) dX3_trySolo_45 lkX3_48 rfl rfl (by decide) rfl ?_
      have hv : ∀ j, j < 3 → mw 90 j = if j = s ∧ btI (nI ci) (nI k) = false then m 91 k else 7 := fun j hj => by
        rw [hmw, jup_s, hB]
        by_cases js : j = s
        · rw [js, upd_s, if_pos ⟨rfl, rfl⟩]
        · rw [upd_n _ _ js, if_neg (fun z => js z.1), ← hmf, jup_s, cpy_in0 hj]
      have hn : ∀ j, j < V → ∃ a, a < 8 ∧ mw 90 j = nI a := fun j hj => by
        rw [hv j (by omega)]
        split
        · exact ht k hkn
        · exact ⟨7, by decide, rfl⟩
      have hfr : TF 31 mm mw := TF.tr (m1 := mf) (by rw [← hmf]; exact TF.v k31 _) (by rw [hmw]; exact TF.v k31 _)
      have hRk : RK mw 31 (aloneB st s (m 91) (nI ci) V P k) V P := hI1.fr (fun c a b => by rw [hmw, jup_n _ _ (by omega), ← hmf, jup_n _ _ (by omega)])
      refine e_callVv (n := 1) mX0_tryBar [.ref 90] dX3_trySolo_48 ckX3_278 rfl (by decide +kernel) rfl rfl rfl rfl (Nat.le_of_ble_eq_true rfl) ⟨Nat.zero_le _, Nat.zero_le _⟩ (s_CtryBar 31 k31 mw (aloneB st s (m 91) (nI ci) V P k) V P hWk hRk hn) (fun mq hmq => ?_)
      refine e_iinc (v := nI (k + 1)) (L' := [some (.ref 0), some (.int (nI s)), some (.int (nI n)), some (.int (nI ci)), some (.int (nI (k + 1)))]) dX3_trySolo_51 rfl (j_inc rfl) (by decide) (jnl_at (i := 3) rfl) rfl ?_
      refine e_goto 3 dX3_trySolo_54 (by decide) ?_
      obtain ⟨a1, a2⟩ := hmq
      rw [oneB_congr (vt_alone (tn := m 91) hV hv)] at a1
      exact ih () mq ⟨a1, hI2.tr (hfr.tr a2)⟩
