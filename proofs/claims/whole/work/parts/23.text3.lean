theorem kitL_end {t : Nat → Int32} {len f V P p : Nat} {rd : Nat → Int32} (h : tkT t len p = 3) : kitL t len (f + 1) rd V P p = .inr (rd, p) := if_pos h
theorem kitL_pan {t : Nat → Int32} {len f V P p : Nat} {rd : Nat → Int32} {k : Int32} (h : tkT t len p = 1) (hk : kdF (tkW t len p) = k) (h0 : ¬ k = 0) : kitL t len (f + 1) rd V P p = bindPR (panM t len rd V P k p) fun rd' q => kitL t len f rd' V (P + 1) q := by
  show (if _ then _ else _) = _
  rw [if_neg (by rw [h]; decide), if_pos h, hk, if_pos h0]
theorem kitL_sng {t : Nat → Int32} {len f V P p : Nat} {rd : Nat → Int32} (h : tkT t len p = 1) (hw : tkW t len p = 115) : kitL t len (f + 1) rd V P p = bindPR (sngM t len rd V P p) fun rd' q => kitL t len f rd' (V + 1) P q := by
  show (if _ then _ else _) = _
  rw [if_neg (by rw [h]; decide), if_pos h, if_neg (by rw [hw]; decide), if_pos hw]
theorem kitL_bad {t : Nat → Int32} {len f V P p : Nat} {rd : Nat → Int32} (h3 : ¬ tkT t len p = 3) (a : ¬ (tkT t len p = 1 ∧ tkW t len p = 112)) (b : ¬ (tkT t len p = 1 ∧ tkW t len p = 99)) (c : ¬ (tkT t len p = 1 ∧ tkW t len p = 113)) (d : ¬ (tkT t len p = 1 ∧ tkW t len p = 109)) (e : ¬ (tkT t len p = 1 ∧ tkW t len p = 100)) (g : ¬ (tkT t len p = 1 ∧ tkW t len p = 115)) : kitL t len (f + 1) rd V P p = .inl (1, p) := by
  show (if _ then _ else _) = _
  rw [if_neg h3]
  by_cases h1 : tkT t len p = 1
  · have k0 : kdF (tkW t len p) = 0 := by
      unfold kdF
      rw [if_neg (fun z => a ⟨h1, z⟩), if_neg (fun z => b ⟨h1, z⟩), if_neg (fun z => c ⟨h1, z⟩), if_neg (fun z => d ⟨h1, z⟩), if_neg (fun z => e ⟨h1, z⟩)]
    rw [if_pos h1, if_neg (fun z => z k0), if_neg (fun z => g ⟨h1, z⟩)]
  · rw [if_neg h1]
/-- more steps than are wanted change nothing -/
theorem kitL_fuel (t : Nat → Int32) (len : Nat) : ∀ (f g : Nat) (rd : Nat → Int32) (V P p : Nat), V ≤ 3 → P ≤ 5 → p ≤ len → len + 1 - p ≤ f → len + 1 - p ≤ g → kitL t len f rd V P p = kitL t len g rd V P p
  | 0, g, rd, V, P, p, _, _, hp, h1, _ => by omega
  | f + 1, 0, rd, V, P, p, _, _, hp, _, h2 => by omega
  | f + 1, g + 1, rd, V, P, p, hV, hP, hp, h1, h2 => by
    by_cases h3 : tkT t len p = 3
    · rw [kitL_end h3, kitL_end h3]
    by_cases h4 : tkT t len p = 1
    · by_cases h5 : kdF (tkW t len p) = 0
      · by_cases h6 : tkW t len p = 115
        · rw [kitL_sng h4 h6, kitL_sng h4 h6]
          rcases hx : sngM t len rd V P p with ⟨e, z⟩ | ⟨r2, q⟩
          · rfl
          obtain ⟨a, -, -, b, c⟩ := sngM_r hV hp h3 hx
          exact kitL_fuel t len f g r2 (V + 1) P q (by omega) hP c (by omega) (by omega)
        · have e : ∀ f, kitL t len (f + 1) rd V P p = .inl (1, p) := fun f => by
            show (if _ then _ else _) = _
            rw [if_neg h3, if_pos h4, if_neg (fun z => z h5), if_neg h6]
          rw [e, e]
      · rw [kitL_pan h4 rfl h5, kitL_pan h4 rfl h5]
        rcases hx : panM t len rd V P (kdF (tkW t len p)) p with ⟨e, z⟩ | ⟨r2, q⟩
        · rfl
        obtain ⟨a, -, -, b, c⟩ := panM_r hP hp h3 hx
        exact kitL_fuel t len f g r2 V (P + 1) q hV (by omega) c (by omega) (by omega)
    · have e : ∀ f, kitL t len (f + 1) rd V P p = .inl (1, p) := fun f => by
        show (if _ then _ else _) = _
        rw [if_neg h3, if_neg h4]
      rw [e, e]
set_option maxHeartbeats 2000000 in
set_option maxRecDepth 20000 in
theorem s_readKitchen (m : jM) (len : Nat) (hl : len ≤ 120) (hb : m 98 8 = nI len) : iX mX4_readKitchen [.ref 98] m (fun v m1 => prQ m len (kitP (m 104) len (va_cpy (fun _ => 0) (m 105) 0 0 51)) v m1) := by
  refine jX_of (L := [some (.ref 98), none, none]) 2 rfl rfl (by decide +kernel) rfl ?_
  refine e_aload_n dX4_readKitchen_0 rfl ?_
  refine e_iconst (v := 0) dX4_readKitchen_1 rfl ?_
  refine e_putI dX4_readKitchen_2 lkX4_88 rfl rfl fwX4_10 (Or.inl rfl) (fun ma hma => ?_)
  refine e_iconst (v := 0) dX4_readKitchen_5 rfl ?_
  refine e_istore_n (L' := [some (.ref 98), some (.int 0), none]) dX4_readKitchen_6 (Nat.le_of_ble_eq_true rfl) (Nat.le_of_ble_eq_true rfl) (jnl_at (i := 0) rfl) rfl ?_
  refine e_loop 7 51 (fun k => [some (.ref 98), some (.int (nI k)), none]) (fun k => jup ma 105 (va_cpy (fun _ => 0) (ma 105) 0 0 k)) 0 (Nat.zero_le _) rfl (by rw [cpy_0, jup_id]) ?_ ?_
  · show jE _ _ 7 [some (.ref 98), some (.int (nI 51)), none] [] (jup ma 105 (va_cpy (fun _ => 0) (ma 105) 0 0 51))
    obtain ⟨mz, hmz⟩ : ∃ y : jM, y = jup ma 105 (va_cpy (fun _ => 0) (ma 105) 0 0 51) := ⟨_, rfl⟩
    refine e_start rfl hmz.symm ?_
    refine e_iload_n dX4_readKitchen_7 rfl ?_
    refine e_bipush (v := 51) dX4_readKitchen_8 rfl ?_
    refine e_icmp_ge 26 dX4_readKitchen_10 (by decide) (fun c10 => ?_) (fun h => absurd (j_done rfl rfl) h)
    have f0 : PF m mz := ⟨fun c a b => by rw [hmz, jup_n _ _ b, hma, jup_n _ _ a], fun f a => by rw [hmz, jup_n _ _ (by decide), hma, jup_s, upd_n _ _ (by omega)]⟩
    have g105 : mz 105 = (va_cpy (fun _ => 0) (m 105) 0 0 51) := by rw [hmz, jup_s, hma, jup_n _ _ (by decide)]
    have g10 : mz 98 10 = nI 0 := by rw [hmz, jup_n _ _ (by decide), hma, jup_s, upd_s]; rfl
    have g8 : mz 98 8 = nI len := (f0.2 8 (by decide)).trans hb
    refine e_aload_n dX4_readKitchen_26 rfl ?_
    refine e_callVv (n := 0) mX4_nextToken [] dX4_readKitchen_27 ckX4_117 rfl (by decide +kernel) rfl rfl rfl rfl (Nat.le_of_ble_eq_true rfl) ⟨Nat.zero_le _, Nat.zero_le _⟩ (s_next mz len 0 hl (Nat.zero_le _) g8 g10) (fun mn hmn => ?_)
    obtain ⟨f1, f2, f3⟩ := tok_next (Nat.zero_le len) g8 hmn
    refine e_aload_n dX4_readKitchen_30 rfl ?_
    refine e_bipush (v := 106) dX4_readKitchen_31 rfl ?_
    refine e_callVi (n := 1) mX4_takes [.int 106] dX4_readKitchen_33 ckX4_120 rfl (by decide +kernel) rfl rfl rfl rfl (Nat.le_of_ble_eq_true rfl) ⟨Nat.zero_le _, Nat.zero_le _⟩ (s_takes mn len 0 hl f3 106) (fun v33 mt hmt => ?_)
    rcases hmt with ⟨pfT, ⟨eT, qT, hrT, rfl, heT, hqT⟩ | ⟨rdT, qT, hrT, rfl, hrdT, htokT⟩⟩
    · rw [f1.t, f0.t, f2, g105] at hrT
      refine e_if_eq 52 dX4_readKitchen_36 (by decide) (fun c36 => ?_) (fun h => absurd h (by decide))
      refine e_iconst (v := 0) dX4_readKitchen_52 rfl ?_
      exact e_zret dX4_readKitchen_53 rfl (by decide) (by
        unfold kitP
        exact ⟨f0.tr (f1.tr pfT), Or.inl ⟨eT, qT, bind_l hrT, rfl, heT, hqT⟩⟩)
    · rw [f1.t, f0.t, f2, g105] at hrT
      refine e_if_eq 52 dX4_readKitchen_36 (by decide) (fun h => absurd h (by decide)) (fun c36 => ?_)
      refine e_aload_n dX4_readKitchen_39 rfl ?_
      refine e_iconst (v := 1) dX4_readKitchen_40 rfl ?_
      refine e_bipush (v := 9) dX4_readKitchen_41 rfl ?_
      refine e_iconst (v := 0) dX4_readKitchen_43 rfl ?_
      refine e_bipush (v := 59) dX4_readKitchen_44 rfl ?_
      refine e_callVi (n := 4) mX4_takesNumber [.int 1, .int 9, .int 0, .int 59] dX4_readKitchen_46 ckX4_123 rfl (by decide +kernel) rfl rfl rfl rfl (Nat.le_of_ble_eq_true rfl) ⟨Nat.zero_le _, Nat.zero_le _⟩ (s_takesNumber mt len qT hl htokT 1 9 0 (by decide) 59) (fun v46 mtB hmtB => ?_)
      rcases hmtB with ⟨pfB, ⟨eB, qB, hrB, rfl, heB, hqB⟩ | ⟨rdB, qB, hrB, rfl, hrdB, htokB⟩⟩
      · rw [pfT.t, f1.t, f0.t, hrdT] at hrB
        refine e_if_ne 54 dX4_readKitchen_49 (by decide) (fun h => absurd h (by decide)) (fun c49 => ?_)
        refine e_iconst (v := 0) dX4_readKitchen_52 rfl ?_
        exact e_zret dX4_readKitchen_53 rfl (by decide) (by
        unfold kitP
        rw [bind_r hrT]
        exact ⟨f0.tr (f1.tr (pfT.tr pfB)), Or.inl ⟨eB, qB, bind_l hrB, rfl, heB, hqB⟩⟩)
      · rw [pfT.t, f1.t, f0.t, hrdT] at hrB
        refine e_if_ne 54 dX4_readKitchen_49 (by decide) (fun c49 => ?_) (fun h => absurd h (by decide))
        refine e_iconst (v := 1) dX4_readKitchen_54 rfl ?_
        refine e_istore_n (L' := [some (.ref 98), some (.int 1), none]) dX4_readKitchen_55 (Nat.le_of_ble_eq_true rfl) (Nat.le_of_ble_eq_true rfl) (jnl_at (i := 0) rfl) rfl ?_
        refine e_weak [some (.ref 98), some (.int 1), none] (by simp [jle]) ?_
        have w1 := takeP_r (Nat.zero_le len) hrT
        have w2 := numM_r htokT.1 hrB
        have z1 : rdB 1 = nI 0 := by rw [w2.1, upd_n _ _ (by decide), w1.1]; rfl
        have z2 : rdB 2 = nI 0 := by rw [w2.1, upd_n _ _ (by decide), w1.1]; rfl
        refine e_loopM (σ := Nat × Nat × Nat) 56 (fun z => [some (.ref 98), some (.int 1), none]) (fun z mk => PF m mk ∧ tokAt mk len z.2.2 ∧ mk 105 1 = nI z.1 ∧ mk 105 2 = nI z.2.1 ∧ z.1 ≤ 3 ∧ z.2.1 ≤ 5 ∧ kitP (m 104) len (va_cpy (fun _ => 0) (m 105) 0 0 51) = kitL (m 104) len (len + 1 - z.2.2) (mk 105) z.1 z.2.1 z.2.2) (fun z => len + 1 - z.2.2) (0, 0, qB) rfl ⟨f0.tr (f1.tr (pfT.tr pfB)), htokB, by rw [hrdB]; exact z1, by rw [hrdB]; exact z2, Nat.zero_le _, Nat.zero_le _, ?_⟩ ?_
        · show kitP (m 104) len (va_cpy (fun _ => 0) (m 105) 0 0 51) = kitL (m 104) len (len + 1 - qB) (mtB 105) 0 0 qB
          unfold kitP
          rw [bind_r hrT, bind_r hrB, hrdB]
        rintro ⟨V, P, p⟩ mk ⟨pfm, tk, r1, r2, hV, hP, hR⟩ ih
        dsimp only at tk r1 r2 hV hP hR
        show jE _ _ 56 [some (.ref 98), some (.int 1), none] [] mk
        obtain ⟨f, hf⟩ : ∃ f, len + 1 - p = f + 1 := ⟨len - p, by have := tk.1; omega⟩
        rw [hf] at hR
        have tt : mk 104 = m 104 := pfm.t
        refine e_iload_n dX4_readKitchen_56 rfl ?_
        refine e_if_eq 172 dX4_readKitchen_57 (by decide) (fun h => absurd h (by decide)) (fun c57 => ?_)
        refine e_aload_n dX4_readKitchen_60 rfl ?_
        refine e_getI dX4_readKitchen_61 lkX4_94 rfl rfl ?_
        rw [show mk 98 11 = tkT (m 104) len p from by rw [tk.2.2.1, tt]]
        refine e_iconst (v := 3) dX4_readKitchen_64 rfl ?_
        refine e_icmp_eq 172 dX4_readKitchen_65 (by decide) (fun c65 => ?_) (fun c65 => ?_)
        · refine e_iload_n dX4_readKitchen_172 rfl ?_
          exact e_zret dX4_readKitchen_173 rfl (by decide) (by
        refine ⟨pfm, Or.inr ⟨mk 105, p, ?_, rfl, rfl, tk⟩⟩
        rw [hR]
        exact kitL_end c65)
        · refine e_aload_n dX4_readKitchen_68 rfl ?_
          refine e_bipush (v := 112) dX4_readKitchen_69 rfl ?_
          refine e_callVi (n := 1) mX4_isLetter [.int 112] dX4_readKitchen_71 ckX4_111 rfl (by decide +kernel) rfl rfl rfl rfl (Nat.le_of_ble_eq_true rfl) ⟨Nat.zero_le _, Nat.zero_le _⟩ (s_isLetter mk 112) (fun v71 m5 hm5 => ?_)
          rcases hm5 with ⟨rfl, ⟨rfl, qL⟩ | ⟨rfl, qL⟩⟩
          · rw [tk.2.2.1, tk.2.2.2.1, tt] at qL
            refine e_if_eq 81 dX4_readKitchen_74 (by decide) (fun h => absurd h (by decide)) (fun c74 => ?_)
            refine e_iconst (v := 1) dX4_readKitchen_77 rfl ?_
            refine e_goto 134 dX4_readKitchen_78 (by decide) ?_
            refine e_istore_n (L' := [some (.ref 98), some (.int 1), some (.int 1)]) dX4_readKitchen_134 (Nat.le_of_ble_eq_true rfl) (Nat.le_of_ble_eq_true rfl) (jnl_at (i := 1) rfl) rfl ?_
            refine e_iload_n dX4_readKitchen_135 rfl ?_
            refine e_if_le 147 dX4_readKitchen_136 (by decide) (fun h => absurd h (by decide)) (fun c136 => ?_)
            refine e_aload_n dX4_readKitchen_139 rfl ?_
            refine e_iload_n dX4_readKitchen_140 rfl ?_
            refine e_callVi (n := 1) mX4_readPan [.int 1] dX4_readKitchen_141 ckX4_128 rfl (by decide +kernel) rfl rfl rfl rfl (Nat.le_of_ble_eq_true rfl) ⟨Nat.zero_le _, Nat.zero_le _⟩ (s_readPan mk len p hl tk V P hV hP r1 r2 1) (fun v141 mq hmq => ?_)
            rcases hmq with ⟨pfQ, ⟨eQ, qQ, hrQ, rfl, heQ, hqQ⟩ | ⟨rdQ, qQ, hrQ, rfl, hrdQ, htokQ⟩⟩
            · rw [tt] at hrQ
              refine e_goto 168 dX4_readKitchen_144 (by decide) ?_
              refine e_istore_n (L' := [some (.ref 98), some (.int 0), some (.int 1)]) dX4_readKitchen_168 (Nat.le_of_ble_eq_true rfl) (Nat.le_of_ble_eq_true rfl) (jnl_at (i := 0) rfl) rfl ?_
              refine e_goto 56 dX4_readKitchen_169 (by decide) ?_
              refine e_iload_n dX4_readKitchen_56 rfl ?_
              refine e_if_eq 172 dX4_readKitchen_57 (by decide) (fun c57 => ?_) (fun h => absurd h (by decide))
              refine e_iload_n dX4_readKitchen_172 rfl ?_
              exact e_zret dX4_readKitchen_173 rfl (by decide) (by
        refine ⟨pfm.tr pfQ, Or.inl ⟨eQ, qQ, ?_, rfl, heQ, hqQ⟩⟩
        rw [hR, kitL_pan (k := 1) qL.1 (by rw [qL.2] <;> rfl) (by decide)]
        exact bind_l hrQ)
            · rw [tt] at hrQ
              refine e_goto 168 dX4_readKitchen_144 (by decide) ?_
              refine e_istore_n (L' := [some (.ref 98), some (.int 1), some (.int 1)]) dX4_readKitchen_168 (Nat.le_of_ble_eq_true rfl) (Nat.le_of_ble_eq_true rfl) (jnl_at (i := 0) rfl) rfl ?_
              refine e_goto 56 dX4_readKitchen_169 (by decide) ?_
              have x := panM_r hP tk.1 c65 hrQ
              refine e_weak [some (.ref 98), some (.int 1), none] (by simp [jle]) ?_
              refine ih (V, P + 1, qQ) mq (by show len + 1 - qQ < len + 1 - p; omega) ⟨pfm.tr pfQ, htokQ, by rw [hrdQ, x.2.1]; exact r1, by rw [hrdQ]; exact x.2.2.1, hV, by show P + 1 ≤ 5; omega, ?_⟩
              rw [hR, kitL_pan (k := 1) qL.1 (by rw [qL.2] <;> rfl) (by decide), bind_r hrQ, hrdQ]
              show kitL _ _ f _ _ _ _ = kitL _ _ (len + 1 - qQ) _ _ _ _
              exact kitL_fuel _ _ _ _ _ _ _ _ hV (by omega) x.2.2.2.2 (by omega) (by omega)
          · rw [tk.2.2.1, tk.2.2.2.1, tt] at qL
            refine e_if_eq 81 dX4_readKitchen_74 (by decide) (fun c74 => ?_) (fun h => absurd h (by decide))
            have n1 := qL
            refine e_aload_n dX4_readKitchen_81 rfl ?_
            refine e_bipush (v := 99) dX4_readKitchen_82 rfl ?_
            refine e_callVi (n := 1) mX4_isLetter [.int 99] dX4_readKitchen_84 ckX4_111 rfl (by decide +kernel) rfl rfl rfl rfl (Nat.le_of_ble_eq_true rfl) ⟨Nat.zero_le _, Nat.zero_le _⟩ (s_isLetter mk 99) (fun v84 m7 hm7 => ?_)
            rcases hm7 with ⟨rfl, ⟨rfl, qL⟩ | ⟨rfl, qL⟩⟩
            · rw [tk.2.2.1, tk.2.2.2.1, tt] at qL
              refine e_if_eq 94 dX4_readKitchen_87 (by decide) (fun h => absurd h (by decide)) (fun c87 => ?_)
              refine e_iconst (v := 2) dX4_readKitchen_90 rfl ?_
              refine e_goto 134 dX4_readKitchen_91 (by decide) ?_
              refine e_istore_n (L' := [some (.ref 98), some (.int 1), some (.int 2)]) dX4_readKitchen_134 (Nat.le_of_ble_eq_true rfl) (Nat.le_of_ble_eq_true rfl) (jnl_at (i := 1) rfl) rfl ?_
              refine e_iload_n dX4_readKitchen_135 rfl ?_
              refine e_if_le 147 dX4_readKitchen_136 (by decide) (fun h => absurd h (by decide)) (fun c136 => ?_)
              refine e_aload_n dX4_readKitchen_139 rfl ?_
              refine e_iload_n dX4_readKitchen_140 rfl ?_
              refine e_callVi (n := 1) mX4_readPan [.int 2] dX4_readKitchen_141 ckX4_128 rfl (by decide +kernel) rfl rfl rfl rfl (Nat.le_of_ble_eq_true rfl) ⟨Nat.zero_le _, Nat.zero_le _⟩ (s_readPan mk len p hl tk V P hV hP r1 r2 2) (fun v141 mq hmq => ?_)
              rcases hmq with ⟨pfQ, ⟨eQ, qQ, hrQ, rfl, heQ, hqQ⟩ | ⟨rdQ, qQ, hrQ, rfl, hrdQ, htokQ⟩⟩
              · rw [tt] at hrQ
                refine e_goto 168 dX4_readKitchen_144 (by decide) ?_
                refine e_istore_n (L' := [some (.ref 98), some (.int 0), some (.int 2)]) dX4_readKitchen_168 (Nat.le_of_ble_eq_true rfl) (Nat.le_of_ble_eq_true rfl) (jnl_at (i := 0) rfl) rfl ?_
                refine e_goto 56 dX4_readKitchen_169 (by decide) ?_
                refine e_iload_n dX4_readKitchen_56 rfl ?_
                refine e_if_eq 172 dX4_readKitchen_57 (by decide) (fun c57 => ?_) (fun h => absurd h (by decide))
                refine e_iload_n dX4_readKitchen_172 rfl ?_
                exact e_zret dX4_readKitchen_173 rfl (by decide) (by
        refine ⟨pfm.tr pfQ, Or.inl ⟨eQ, qQ, ?_, rfl, heQ, hqQ⟩⟩
        rw [hR, kitL_pan (k := 2) qL.1 (by rw [qL.2] <;> rfl) (by decide)]
        exact bind_l hrQ)
              · rw [tt] at hrQ
                refine e_goto 168 dX4_readKitchen_144 (by decide) ?_
                refine e_istore_n (L' := [some (.ref 98), some (.int 1), some (.int 2)]) dX4_readKitchen_168 (Nat.le_of_ble_eq_true rfl) (Nat.le_of_ble_eq_true rfl) (jnl_at (i := 0) rfl) rfl ?_
                refine e_goto 56 dX4_readKitchen_169 (by decide) ?_
                have x := panM_r hP tk.1 c65 hrQ
                refine e_weak [some (.ref 98), some (.int 1), none] (by simp [jle]) ?_
                refine ih (V, P + 1, qQ) mq (by show len + 1 - qQ < len + 1 - p; omega) ⟨pfm.tr pfQ, htokQ, by rw [hrdQ, x.2.1]; exact r1, by rw [hrdQ]; exact x.2.2.1, hV, by show P + 1 ≤ 5; omega, ?_⟩
                rw [hR, kitL_pan (k := 2) qL.1 (by rw [qL.2] <;> rfl) (by decide), bind_r hrQ, hrdQ]
                show kitL _ _ f _ _ _ _ = kitL _ _ (len + 1 - qQ) _ _ _ _
                exact kitL_fuel _ _ _ _ _ _ _ _ hV (by omega) x.2.2.2.2 (by omega) (by omega)
            · rw [tk.2.2.1, tk.2.2.2.1, tt] at qL
              refine e_if_eq 94 dX4_readKitchen_87 (by decide) (fun c87 => ?_) (fun h => absurd h (by decide))
              have n2 := qL
              refine e_aload_n dX4_readKitchen_94 rfl ?_
              refine e_bipush (v := 113) dX4_readKitchen_95 rfl ?_
              refine e_callVi (n := 1) mX4_isLetter [.int 113] dX4_readKitchen_97 ckX4_111 rfl (by decide +kernel) rfl rfl rfl rfl (Nat.le_of_ble_eq_true rfl) ⟨Nat.zero_le _, Nat.zero_le _⟩ (s_isLetter mk 113) (fun v97 m9 hm9 => ?_)
              rcases hm9 with ⟨rfl, ⟨rfl, qL⟩ | ⟨rfl, qL⟩⟩
              · rw [tk.2.2.1, tk.2.2.2.1, tt] at qL
                refine e_if_eq 107 dX4_readKitchen_100 (by decide) (fun h => absurd h (by decide)) (fun c100 => ?_)
                refine e_iconst (v := 3) dX4_readKitchen_103 rfl ?_
                refine e_goto 134 dX4_readKitchen_104 (by decide) ?_
                refine e_istore_n (L' := [some (.ref 98), some (.int 1), some (.int 3)]) dX4_readKitchen_134 (Nat.le_of_ble_eq_true rfl) (Nat.le_of_ble_eq_true rfl) (jnl_at (i := 1) rfl) rfl ?_
                refine e_iload_n dX4_readKitchen_135 rfl ?_
                refine e_if_le 147 dX4_readKitchen_136 (by decide) (fun h => absurd h (by decide)) (fun c136 => ?_)
                refine e_aload_n dX4_readKitchen_139 rfl ?_
                refine e_iload_n dX4_readKitchen_140 rfl ?_
                refine e_callVi (n := 1) mX4_readPan [.int 3] dX4_readKitchen_141 ckX4_128 rfl (by decide +kernel) rfl rfl rfl rfl (Nat.le_of_ble_eq_true rfl) ⟨Nat.zero_le _, Nat.zero_le _⟩ (s_readPan mk len p hl tk V P hV hP r1 r2 3) (fun v141 mq hmq => ?_)
                rcases hmq with ⟨pfQ, ⟨eQ, qQ, hrQ, rfl, heQ, hqQ⟩ | ⟨rdQ, qQ, hrQ, rfl, hrdQ, htokQ⟩⟩
                · rw [tt] at hrQ
                  refine e_goto 168 dX4_readKitchen_144 (by decide) ?_
                  refine e_istore_n (L' := [some (.ref 98), some (.int 0), some (.int 3)]) dX4_readKitchen_168 (Nat.le_of_ble_eq_true rfl) (Nat.le_of_ble_eq_true rfl) (jnl_at (i := 0) rfl) rfl ?_
                  refine e_goto 56 dX4_readKitchen_169 (by decide) ?_
                  refine e_iload_n dX4_readKitchen_56 rfl ?_
                  refine e_if_eq 172 dX4_readKitchen_57 (by decide) (fun c57 => ?_) (fun h => absurd h (by decide))
                  refine e_iload_n dX4_readKitchen_172 rfl ?_
                  exact e_zret dX4_readKitchen_173 rfl (by decide) (by
        refine ⟨pfm.tr pfQ, Or.inl ⟨eQ, qQ, ?_, rfl, heQ, hqQ⟩⟩
        rw [hR, kitL_pan (k := 3) qL.1 (by rw [qL.2] <;> rfl) (by decide)]
        exact bind_l hrQ)
                · rw [tt] at hrQ
                  refine e_goto 168 dX4_readKitchen_144 (by decide) ?_
                  refine e_istore_n (L' := [some (.ref 98), some (.int 1), some (.int 3)]) dX4_readKitchen_168 (Nat.le_of_ble_eq_true rfl) (Nat.le_of_ble_eq_true rfl) (jnl_at (i := 0) rfl) rfl ?_
                  refine e_goto 56 dX4_readKitchen_169 (by decide) ?_
                  have x := panM_r hP tk.1 c65 hrQ
                  refine e_weak [some (.ref 98), some (.int 1), none] (by simp [jle]) ?_
                  refine ih (V, P + 1, qQ) mq (by show len + 1 - qQ < len + 1 - p; omega) ⟨pfm.tr pfQ, htokQ, by rw [hrdQ, x.2.1]; exact r1, by rw [hrdQ]; exact x.2.2.1, hV, by show P + 1 ≤ 5; omega, ?_⟩
                  rw [hR, kitL_pan (k := 3) qL.1 (by rw [qL.2] <;> rfl) (by decide), bind_r hrQ, hrdQ]
                  show kitL _ _ f _ _ _ _ = kitL _ _ (len + 1 - qQ) _ _ _ _
                  exact kitL_fuel _ _ _ _ _ _ _ _ hV (by omega) x.2.2.2.2 (by omega) (by omega)
              · rw [tk.2.2.1, tk.2.2.2.1, tt] at qL
                refine e_if_eq 107 dX4_readKitchen_100 (by decide) (fun c100 => ?_) (fun h => absurd h (by decide))
                have n3 := qL
                refine e_aload_n dX4_readKitchen_107 rfl ?_
                refine e_bipush (v := 109) dX4_readKitchen_108 rfl ?_
                refine e_callVi (n := 1) mX4_isLetter [.int 109] dX4_readKitchen_110 ckX4_111 rfl (by decide +kernel) rfl rfl rfl rfl (Nat.le_of_ble_eq_true rfl) ⟨Nat.zero_le _, Nat.zero_le _⟩ (s_isLetter mk 109) (fun v110 m11 hm11 => ?_)
                rcases hm11 with ⟨rfl, ⟨rfl, qL⟩ | ⟨rfl, qL⟩⟩
                · rw [tk.2.2.1, tk.2.2.2.1, tt] at qL
                  refine e_if_eq 120 dX4_readKitchen_113 (by decide) (fun h => absurd h (by decide)) (fun c113 => ?_)
                  refine e_iconst (v := 4) dX4_readKitchen_116 rfl ?_
                  refine e_goto 134 dX4_readKitchen_117 (by decide) ?_
                  refine e_istore_n (L' := [some (.ref 98), some (.int 1), some (.int 4)]) dX4_readKitchen_134 (Nat.le_of_ble_eq_true rfl) (Nat.le_of_ble_eq_true rfl) (jnl_at (i := 1) rfl) rfl ?_
                  refine e_iload_n dX4_readKitchen_135 rfl ?_
                  refine e_if_le 147 dX4_readKitchen_136 (by decide) (fun h => absurd h (by decide)) (fun c136 => ?_)
                  refine e_aload_n dX4_readKitchen_139 rfl ?_
                  refine e_iload_n dX4_readKitchen_140 rfl ?_
                  refine e_callVi (n := 1) mX4_readPan [.int 4] dX4_readKitchen_141 ckX4_128 rfl (by decide +kernel) rfl rfl rfl rfl (Nat.le_of_ble_eq_true rfl) ⟨Nat.zero_le _, Nat.zero_le _⟩ (s_readPan mk len p hl tk V P hV hP r1 r2 4) (fun v141 mq hmq => ?_)
                  rcases hmq with ⟨pfQ, ⟨eQ, qQ, hrQ, rfl, heQ, hqQ⟩ | ⟨rdQ, qQ, hrQ, rfl, hrdQ, htokQ⟩⟩
                  · rw [tt] at hrQ
                    refine e_goto 168 dX4_readKitchen_144 (by decide) ?_
                    refine e_istore_n (L' := [some (.ref 98), some (.int 0), some (.int 4)]) dX4_readKitchen_168 (Nat.le_of_ble_eq_true rfl) (Nat.le_of_ble_eq_true rfl) (jnl_at (i := 0) rfl) rfl ?_
                    refine e_goto 56 dX4_readKitchen_169 (by decide) ?_
                    refine e_iload_n dX4_readKitchen_56 rfl ?_
                    refine e_if_eq 172 dX4_readKitchen_57 (by decide) (fun c57 => ?_) (fun h => absurd h (by decide))
                    refine e_iload_n dX4_readKitchen_172 rfl ?_
                    exact e_zret dX4_readKitchen_173 rfl (by decide) (by
        refine ⟨pfm.tr pfQ, Or.inl ⟨eQ, qQ, ?_, rfl, heQ, hqQ⟩⟩
        rw [hR, kitL_pan (k := 4) qL.1 (by rw [qL.2] <;> rfl) (by decide)]
        exact bind_l hrQ)
                  · rw [tt] at hrQ
                    refine e_goto 168 dX4_readKitchen_144 (by decide) ?_
                    refine e_istore_n (L' := [some (.ref 98), some (.int 1), some (.int 4)]) dX4_readKitchen_168 (Nat.le_of_ble_eq_true rfl) (Nat.le_of_ble_eq_true rfl) (jnl_at (i := 0) rfl) rfl ?_
                    refine e_goto 56 dX4_readKitchen_169 (by decide) ?_
                    have x := panM_r hP tk.1 c65 hrQ
                    refine e_weak [some (.ref 98), some (.int 1), none] (by simp [jle]) ?_
                    refine ih (V, P + 1, qQ) mq (by show len + 1 - qQ < len + 1 - p; omega) ⟨pfm.tr pfQ, htokQ, by rw [hrdQ, x.2.1]; exact r1, by rw [hrdQ]; exact x.2.2.1, hV, by show P + 1 ≤ 5; omega, ?_⟩
                    rw [hR, kitL_pan (k := 4) qL.1 (by rw [qL.2] <;> rfl) (by decide), bind_r hrQ, hrdQ]
                    show kitL _ _ f _ _ _ _ = kitL _ _ (len + 1 - qQ) _ _ _ _
                    exact kitL_fuel _ _ _ _ _ _ _ _ hV (by omega) x.2.2.2.2 (by omega) (by omega)
                · rw [tk.2.2.1, tk.2.2.2.1, tt] at qL
                  refine e_if_eq 120 dX4_readKitchen_113 (by decide) (fun c113 => ?_) (fun h => absurd h (by decide))
                  have n4 := qL
                  refine e_aload_n dX4_readKitchen_120 rfl ?_
                  refine e_bipush (v := 100) dX4_readKitchen_121 rfl ?_
                  refine e_callVi (n := 1) mX4_isLetter [.int 100] dX4_readKitchen_123 ckX4_111 rfl (by decide +kernel) rfl rfl rfl rfl (Nat.le_of_ble_eq_true rfl) ⟨Nat.zero_le _, Nat.zero_le _⟩ (s_isLetter mk 100) (fun v123 m13 hm13 => ?_)
                  rcases hm13 with ⟨rfl, ⟨rfl, qL⟩ | ⟨rfl, qL⟩⟩
                  · rw [tk.2.2.1, tk.2.2.2.1, tt] at qL
                    refine e_if_eq 133 dX4_readKitchen_126 (by decide) (fun h => absurd h (by decide)) (fun c126 => ?_)
                    refine e_iconst (v := 5) dX4_readKitchen_129 rfl ?_
                    refine e_goto 134 dX4_readKitchen_130 (by decide) ?_
                    refine e_istore_n (L' := [some (.ref 98), some (.int 1), some (.int 5)]) dX4_readKitchen_134 (Nat.le_of_ble_eq_true rfl) (Nat.le_of_ble_eq_true rfl) (jnl_at (i := 1) rfl) rfl ?_
                    refine e_iload_n dX4_readKitchen_135 rfl ?_
                    refine e_if_le 147 dX4_readKitchen_136 (by decide) (fun h => absurd h (by decide)) (fun c136 => ?_)
                    refine e_aload_n dX4_readKitchen_139 rfl ?_
                    refine e_iload_n dX4_readKitchen_140 rfl ?_
                    refine e_callVi (n := 1) mX4_readPan [.int 5] dX4_readKitchen_141 ckX4_128 rfl (by decide +kernel) rfl rfl rfl rfl (Nat.le_of_ble_eq_true rfl) ⟨Nat.zero_le _, Nat.zero_le _⟩ (s_readPan mk len p hl tk V P hV hP r1 r2 5) (fun v141 mq hmq => ?_)
                    rcases hmq with ⟨pfQ, ⟨eQ, qQ, hrQ, rfl, heQ, hqQ⟩ | ⟨rdQ, qQ, hrQ, rfl, hrdQ, htokQ⟩⟩
                    · rw [tt] at hrQ
                      refine e_goto 168 dX4_readKitchen_144 (by decide) ?_
                      refine e_istore_n (L' := [some (.ref 98), some (.int 0), some (.int 5)]) dX4_readKitchen_168 (Nat.le_of_ble_eq_true rfl) (Nat.le_of_ble_eq_true rfl) (jnl_at (i := 0) rfl) rfl ?_
                      refine e_goto 56 dX4_readKitchen_169 (by decide) ?_
                      refine e_iload_n dX4_readKitchen_56 rfl ?_
                      refine e_if_eq 172 dX4_readKitchen_57 (by decide) (fun c57 => ?_) (fun h => absurd h (by decide))
                      refine e_iload_n dX4_readKitchen_172 rfl ?_
                      exact e_zret dX4_readKitchen_173 rfl (by decide) (by
        refine ⟨pfm.tr pfQ, Or.inl ⟨eQ, qQ, ?_, rfl, heQ, hqQ⟩⟩
        rw [hR, kitL_pan (k := 5) qL.1 (by rw [qL.2] <;> rfl) (by decide)]
        exact bind_l hrQ)
                    · rw [tt] at hrQ
                      refine e_goto 168 dX4_readKitchen_144 (by decide) ?_
                      refine e_istore_n (L' := [some (.ref 98), some (.int 1), some (.int 5)]) dX4_readKitchen_168 (Nat.le_of_ble_eq_true rfl) (Nat.le_of_ble_eq_true rfl) (jnl_at (i := 0) rfl) rfl ?_
                      refine e_goto 56 dX4_readKitchen_169 (by decide) ?_
                      have x := panM_r hP tk.1 c65 hrQ
                      refine e_weak [some (.ref 98), some (.int 1), none] (by simp [jle]) ?_
                      refine ih (V, P + 1, qQ) mq (by show len + 1 - qQ < len + 1 - p; omega) ⟨pfm.tr pfQ, htokQ, by rw [hrdQ, x.2.1]; exact r1, by rw [hrdQ]; exact x.2.2.1, hV, by show P + 1 ≤ 5; omega, ?_⟩
                      rw [hR, kitL_pan (k := 5) qL.1 (by rw [qL.2] <;> rfl) (by decide), bind_r hrQ, hrdQ]
                      show kitL _ _ f _ _ _ _ = kitL _ _ (len + 1 - qQ) _ _ _ _
                      exact kitL_fuel _ _ _ _ _ _ _ _ hV (by omega) x.2.2.2.2 (by omega) (by omega)
                  · rw [tk.2.2.1, tk.2.2.2.1, tt] at qL
                    refine e_if_eq 133 dX4_readKitchen_126 (by decide) (fun c126 => ?_) (fun h => absurd h (by decide))
                    have n5 := qL
                    refine e_iconst (v := 0) dX4_readKitchen_133 rfl ?_
                    refine e_istore_n (L' := [some (.ref 98), some (.int 1), some (.int 0)]) dX4_readKitchen_134 (Nat.le_of_ble_eq_true rfl) (Nat.le_of_ble_eq_true rfl) (jnl_at (i := 1) rfl) rfl ?_
                    refine e_iload_n dX4_readKitchen_135 rfl ?_
                    refine e_if_le 147 dX4_readKitchen_136 (by decide) (fun c136 => ?_) (fun h => absurd h (by decide))
                    refine e_aload_n dX4_readKitchen_147 rfl ?_
                    refine e_bipush (v := 115) dX4_readKitchen_148 rfl ?_
                    refine e_callVi (n := 1) mX4_isLetter [.int 115] dX4_readKitchen_150 ckX4_111 rfl (by decide +kernel) rfl rfl rfl rfl (Nat.le_of_ble_eq_true rfl) ⟨Nat.zero_le _, Nat.zero_le _⟩ (s_isLetter mk 115) (fun v150 m15 hm15 => ?_)
                    rcases hm15 with ⟨rfl, ⟨rfl, qL⟩ | ⟨rfl, qL⟩⟩
                    · rw [tk.2.2.1, tk.2.2.2.1, tt] at qL
                      refine e_if_eq 163 dX4_readKitchen_153 (by decide) (fun h => absurd h (by decide)) (fun c153 => ?_)
                      refine e_aload_n dX4_readKitchen_156 rfl ?_
                      refine e_callVi (n := 0) mX4_readSinger [] dX4_readKitchen_157 ckX4_131 rfl (by decide +kernel) rfl rfl rfl rfl (Nat.le_of_ble_eq_true rfl) ⟨Nat.zero_le _, Nat.zero_le _⟩ (s_readSinger mk len p hl tk V P hV hP r1 r2) (fun v157 ms hms => ?_)
                      rcases hms with ⟨pfQ, ⟨eQ, qQ, hrQ, rfl, heQ, hqQ⟩ | ⟨rdQ, qQ, hrQ, rfl, hrdQ, htokQ⟩⟩
                      · rw [tt] at hrQ
                        refine e_goto 168 dX4_readKitchen_160 (by decide) ?_
                        refine e_istore_n (L' := [some (.ref 98), some (.int 0), some (.int 0)]) dX4_readKitchen_168 (Nat.le_of_ble_eq_true rfl) (Nat.le_of_ble_eq_true rfl) (jnl_at (i := 0) rfl) rfl ?_
                        refine e_goto 56 dX4_readKitchen_169 (by decide) ?_
                        refine e_iload_n dX4_readKitchen_56 rfl ?_
                        refine e_if_eq 172 dX4_readKitchen_57 (by decide) (fun c57 => ?_) (fun h => absurd h (by decide))
                        refine e_iload_n dX4_readKitchen_172 rfl ?_
                        exact e_zret dX4_readKitchen_173 rfl (by decide) (by
        refine ⟨pfm.tr pfQ, Or.inl ⟨eQ, qQ, ?_, rfl, heQ, hqQ⟩⟩
        rw [hR, kitL_sng qL.1 qL.2]
        exact bind_l hrQ)
                      · rw [tt] at hrQ
                        refine e_goto 168 dX4_readKitchen_160 (by decide) ?_
                        refine e_istore_n (L' := [some (.ref 98), some (.int 1), some (.int 0)]) dX4_readKitchen_168 (Nat.le_of_ble_eq_true rfl) (Nat.le_of_ble_eq_true rfl) (jnl_at (i := 0) rfl) rfl ?_
                        refine e_goto 56 dX4_readKitchen_169 (by decide) ?_
                        have x := sngM_r hV tk.1 c65 hrQ
                        refine e_weak [some (.ref 98), some (.int 1), none] (by simp [jle]) ?_
                        refine ih (V + 1, P, qQ) ms (by show len + 1 - qQ < len + 1 - p; omega) ⟨pfm.tr pfQ, htokQ, by rw [hrdQ]; exact x.2.1, by rw [hrdQ, x.2.2.1]; exact r2, by show V + 1 ≤ 3; omega, hP, ?_⟩
                        rw [hR, kitL_sng qL.1 qL.2, bind_r hrQ, hrdQ]
                        show kitL _ _ f _ _ _ _ = kitL _ _ (len + 1 - qQ) _ _ _ _
                        exact kitL_fuel _ _ _ _ _ _ _ _ (by omega) hP x.2.2.2.2 (by omega) (by omega)
                    · rw [tk.2.2.1, tk.2.2.2.1, tt] at qL
                      refine e_if_eq 163 dX4_readKitchen_153 (by decide) (fun c153 => ?_) (fun h => absurd h (by decide))
                      refine e_aload_n dX4_readKitchen_163 rfl ?_
                      refine e_iconst (v := 1) dX4_readKitchen_164 rfl ?_
                      refine e_callVi (n := 1) mX4_faults [.int 1] dX4_readKitchen_165 ckX4_114 rfl (by decide +kernel) rfl rfl rfl rfl (Nat.le_of_ble_eq_true rfl) ⟨Nat.zero_le _, Nat.zero_le _⟩ (s_faults mk 1) (fun v165 mf hmf => ?_)
                      obtain ⟨rfl, hf2⟩ := hmf
                      refine e_istore_n (L' := [some (.ref 98), some (.int 0), some (.int 0)]) dX4_readKitchen_168 (Nat.le_of_ble_eq_true rfl) (Nat.le_of_ble_eq_true rfl) (jnl_at (i := 0) rfl) rfl ?_
                      refine e_goto 56 dX4_readKitchen_169 (by decide) ?_
                      refine e_iload_n dX4_readKitchen_56 rfl ?_
                      refine e_if_eq 172 dX4_readKitchen_57 (by decide) (fun c57 => ?_) (fun h => absurd h (by decide))
                      refine e_iload_n dX4_readKitchen_172 rfl ?_
                      exact e_zret dX4_readKitchen_173 rfl (by decide) (by
        obtain ⟨g1, g2, g3⟩ := pf_fault hf2
        refine ⟨pfm.tr g1, Or.inl ⟨1, p, ?_, rfl, g2, g3.trans tk.2.1⟩⟩
        rw [hR]
        exact kitL_bad c65 n1 n2 n3 n4 n5 qL)
  · intro k hk ih
    show jE _ _ 7 [some (.ref 98), some (.int (nI k)), none] [] (jup ma 105 (va_cpy (fun _ => 0) (ma 105) 0 0 k))
    obtain ⟨mb, hmb⟩ : ∃ y : jM, y = jup ma 105 (va_cpy (fun _ => 0) (ma 105) 0 0 k) := ⟨_, rfl⟩
    refine e_start rfl hmb.symm ?_
    refine e_iload_n dX4_readKitchen_7 rfl ?_
    refine e_bipush (v := 51) dX4_readKitchen_8 rfl ?_
    refine e_icmp_ge 26 dX4_readKitchen_10 (by decide) (fun h => absurd h (j_more (N := 51) rfl rfl (by omega) (by omega))) (fun c10 => ?_)
    refine e_aload_n dX4_readKitchen_13 rfl ?_
    refine e_getR (o := 7) (b := 105) dX4_readKitchen_14 lkX4_28 rfl rfl (by decide) rfl ?_
    refine e_iload_n dX4_readKitchen_17 rfl ?_
    refine e_iconst (v := 0) dX4_readKitchen_18 rfl ?_
    refine e_iast dX4_readKitchen_19 rfl k rfl (by omega) (by decide) (fun m18 hm18 => ?_)
    refine e_iinc (v := nI (k + 1)) (L' := [some (.ref 98), some (.int (nI (k + 1))), none]) dX4_readKitchen_20 rfl (j_inc rfl) (by decide) (jnl_at (i := 0) rfl) rfl ?_
    refine e_goto 7 dX4_readKitchen_23 (by decide) ?_
    refine e_start rfl ?_ ih
    rw [hm18, hmb, jup_s, jup_jup]
    exact congrArg (jup ma 105) (cpy_s0' rfl)
