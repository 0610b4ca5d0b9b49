set_option maxHeartbeats 2000000 in
set_option maxRecDepth 20000 in
theorem s_noteOf (m : jM) (n r b : Nat) (hn : n ≤ 4) (hr : r < 8 ^ n) (hb : b < n) : iX mX3_noteOf [.int (nI r), .int (nI n), .int (nI b)] m (fun v m1 => v = nI (dgS n r b) ∧ m = m1) := by
  refine jX_of (L := [some (.int (nI r)), some (.int (nI n)), some (.int (nI b))]) 0 rfl rfl (by decide +kernel) rfl ?_
  refine e_iload_n dX3_noteOf_0 rfl ?_
  refine e_iconst (v := 3) dX3_noteOf_1 rfl ?_
  refine e_iload_n dX3_noteOf_2 rfl ?_
  refine e_iconst (v := 1) dX3_noteOf_3 rfl ?_
  refine e_isub dX3_noteOf_4 ?_
  rw [show (nI n) - 1 = nI (n - 1) from pk_sub (a := n) (b := 1) (by omega)]
  refine e_iload_n dX3_noteOf_5 rfl ?_
  refine e_isub dX3_noteOf_6 ?_
  rw [show (nI (n - 1)) - (nI b) = nI (n - 1 - b) from pk_sub (by omega)]
  refine e_imul dX3_noteOf_7 ?_
  rw [show 3 * (nI (n - 1 - b)) = nI (3 * (n - 1 - b)) from pk_mul 3 _]
  refine e_ishr dX3_noteOf_8 ?_
  refine e_bipush (v := 7) dX3_noteOf_9 rfl ?_
  refine e_iand dX3_noteOf_11 ?_
  exact e_iret dX3_noteOf_12 rfl (⟨dg_ok n (by omega) b hb r hr, rfl⟩)

set_option maxHeartbeats 2000000 in
set_option maxRecDepth 20000 in
theorem s_trySong (m0 m : jM) (hq : SQ m0 m) (st : Nat → Int32) (V P : Nat) (hW : WK st V P) (s : Nat) (hs : s < V) (n r : Nat) (hn : n ≤ 4) (hr : r < 8 ^ n) (hT : TK m st V P) (hG : ∀ b, b ≤ alk n r → PG m (93 + b) (sgS st s (rwS n r) V P b) V P) (hC : sgC st s (rwS n r) V P (alk n r) = true) : iX mX3_trySong [.ref 0, .int (nI s), .int (nI n), .int (nI r)] m (fun v m1 => ∃ c, c ≤ n ∧ v = nI c ∧ SQ m0 m1 ∧ TK m1 st V P ∧ (∀ b, b ≤ c → (b < n ∨ n = 0) → PG m1 (93 + b) (sgS st s (rwS n r) V P b) V P) ∧ sgC st s (rwS n r) V P c = true ∧ (c < n → sgC st s (rwS n r) V P (c + 1) = false) ∧ (c = n → RK m1 31 (sgS st s (rwS n r) V P n) V P) ∧ m1 0 = m 0) := by
  have hV := hW.v3
  have hP := hW.p5
  obtain ⟨cur, hRc, hSc⟩ := hT
  have h4096 := eight_le hn
  have hal := alk_le n r
  refine jX_of (L := [some (.ref 0), some (.int (nI s)), some (.int (nI n)), some (.int (nI r)), none, none, none]) 3 rfl rfl (by decide +kernel) rfl ?_
  refine e_iload_n dX3_trySong_0 rfl ?_
  refine e_if_ne 8 dX3_trySong_1 (by decide) (fun c1 => ?_) (fun c1 => ?_)
  · have r0 : r ≠ 0 := fun z => c1 (by rw [z]; rfl)
    have n1 : 1 ≤ n := by
      rcases Nat.eq_zero_or_pos n with z | z
      · rw [z] at hr; exact absurd hr (by omega)
      · exact z
    have hz3 := alk_ok n (by omega) r hr r0
    have hz12 := ntz_le r (by omega)
    refine e_iload_n dX3_trySong_8 rfl ?_
    refine e_iconst (v := 1) dX3_trySong_9 rfl ?_
    refine e_isub dX3_trySong_10 ?_
    rw [show (nI n) - 1 = nI (n - 1) from pk_sub (a := n) (b := 1) (by omega)]
    refine e_iload_n dX3_trySong_11 rfl ?_
    refine e_callSi (n := 1) mInt_numberOfTrailingZeros [.int (nI r)] dX3_trySong_12 ckX3_287 rfl (by decide +kernel) rfl rfl (Nat.le_of_ble_eq_true rfl) ⟨Nat.zero_le _, Nat.zero_le _⟩ (s_ntzX m (nI r) (ntI_k r (by omega) r0)) (fun v12 m1 hm1 => ?_)
    obtain ⟨rfl, rfl⟩ := hm1
    rw [ntX_k r (by omega) r0]
    refine e_iconst (v := 3) dX3_trySong_15 rfl ?_
    refine e_idiv dX3_trySong_16 (by decide) ?_
    rw [show (nI (ntz 12 r)) / 3 = nI (ntz 12 r / 3) from pk_div (d := 3) (by omega) (by decide) (by decide)]
    refine e_isub dX3_trySong_17 ?_
    rw [show (nI (n - 1)) - (nI (ntz 12 r / 3)) = nI (alk n r) from by unfold alk; rw [if_neg r0]; exact pk_sub hz3]
    refine e_istore (L' := [some (.ref 0), some (.int (nI s)), some (.int (nI n)), some (.int (nI r)), some (.int (nI (alk n r))), none, none]) dX3_trySong_18 (Nat.le_of_ble_eq_true rfl) (Nat.le_of_ble_eq_true rfl) (jnl_at (i := 3) rfl) rfl ?_
    refine e_aload_n dX3_trySong_20 rfl ?_
    refine e_getR (o := 31) (b := 31) dX3_trySong_21 lkX3_29 rfl rfl (by decide) rfl ?_
    refine e_aload_n dX3_trySong_24 rfl ?_
    refine e_getR (o := 92) (b := 92) dX3_trySong_25 lkX3_55 rfl rfl (by decide) rfl ?_
    refine e_iload dX3_trySong_28 rfl ?_
    refine e_aald (b := 93 + (alk n r)) dX3_trySong_30 rfl (by decide) (alk n r) rfl (by omega) (by decide) rfl ?_
    refine e_callVv (n := 1) mX0_bring [.ref (93 + (alk n r))] dX3_trySong_31 ckX3_167 rfl (by decide +kernel) rfl rfl rfl rfl (Nat.le_of_ble_eq_true rfl) ⟨Nat.zero_le _, Nat.zero_le _⟩ (s_Cbring 31 k31 m cur V P hV hP hRc (sgS st s (rwS n r) V P (alk n r)) (SS.bt hSc (sgS_SS hV _)) (93 + alk n r) (isB_l _ (by omega)) (Or.inr (by omega)) (hG _ (Nat.le_refl _))) (fun mb hmb => ?_)
    refine e_iload dX3_trySong_34 rfl ?_
    refine e_istore (L' := [some (.ref 0), some (.int (nI s)), some (.int (nI n)), some (.int (nI r)), some (.int (nI (alk n r))), some (.int (nI (alk n r))), none]) dX3_trySong_36 (Nat.le_of_ble_eq_true rfl) (Nat.le_of_ble_eq_true rfl) (jnl_at (i := 4) rfl) rfl ?_
    refine e_weak [some (.ref 0), some (.int (nI s)), some (.int (nI n)), some (.int (nI r)), none, some (.int (nI (alk n r))), none] (by simp [jle]) ?_
    refine e_loopS (σ := Unit) 38 n (fun k _ => [some (.ref 0), some (.int (nI s)), some (.int (nI n)), some (.int (nI r)), none, some (.int (nI k)), none]) (fun k _ mm => RK mm 31 (sgS st s (rwS n r) V P k) V P ∧ SQ m0 mm ∧ (∀ b, b < k ∨ (b ≤ k ∧ (b < n ∨ n = 0) ∧ b ≤ alk n r) → PG mm (93 + b) (sgS st s (rwS n r) V P b) V P) ∧ sgC st s (rwS n r) V P k = true ∧ alk n r ≤ k ∧ mm 0 = m 0) (alk n r) () (by omega) rfl (⟨hmb.1, hq.tr (SQ.kf hmb.2), fun b hb => (hG b (by omega)).fr (hmb.2.1 _ (by omega)), hC, Nat.le_refl _, hmb.2.1 0 (by omega)⟩) ?_ ?_
    · intro _ mm hI
      show jE _ _ 38 [some (.ref 0), some (.int (nI s)), some (.int (nI n)), some (.int (nI r)), none, some (.int (nI n)), none] [] mm
      obtain ⟨hI1, hI2, hI3, hI4, hI5, hI6⟩ := hI
      refine e_iload dX3_trySong_38 rfl ?_
      refine e_iload_n dX3_trySong_40 rfl ?_
      refine e_icmp_ge 117 dX3_trySong_41 (by decide) (fun c41 => ?_) (fun h => absurd (j_done rfl rfl) h)
      refine e_iload_n dX3_trySong_117 rfl ?_
      exact e_iret dX3_trySong_118 rfl (⟨n, Nat.le_refl n, rfl, hI2, ⟨_, hI1, sgS_SS hV _⟩, fun b hb hb2 => hI3 b (by omega), hI4, fun z => absurd z (by omega), fun _ => hI1, hI6⟩)
    · intro k hk_ _ mm hI ih
      show jE _ _ 38 [some (.ref 0), some (.int (nI s)), some (.int (nI n)), some (.int (nI r)), none, some (.int (nI k)), none] [] mm
      obtain ⟨hI1, hI2, hI3, hI4, hI5, hI6⟩ := hI
      have hkn : k < n := hk_
      refine e_iload dX3_trySong_38 rfl ?_
      refine e_iload_n dX3_trySong_40 rfl ?_
      refine e_icmp_ge 117 dX3_trySong_41 (by decide) (fun h => absurd h (j_more (N := n) rfl rfl (by omega) (by omega))) (fun c41 => ?_)
      refine e_aload_n dX3_trySong_44 rfl ?_
      refine e_getR (o := 31) (b := 31) dX3_trySong_45 lkX3_29 rfl rfl (by decide) rfl ?_
      refine e_aload_n dX3_trySong_48 rfl ?_
      refine e_getR (o := 92) (b := 92) dX3_trySong_49 lkX3_55 rfl rfl (by decide) rfl ?_
      refine e_iload dX3_trySong_52 rfl ?_
      refine e_aald (b := 93 + k) dX3_trySong_54 rfl (by decide) k rfl (by omega) (by decide) rfl ?_
      refine e_callVv (n := 1) mX0_keep [.ref (93 + k)] dX3_trySong_55 ckX3_264 rfl (by decide +kernel) rfl rfl rfl rfl (Nat.le_of_ble_eq_true rfl) ⟨Nat.zero_le _, Nat.zero_le _⟩ (s_Ckeep 31 k31 mm (sgS st s (rwS n r) V P k) V P hV hP hI1 (93 + k) (isB_l k (by omega)) (Or.inr (by omega))) (fun mk hmk => ?_)
      have hRk : RK mk 31 (sgS st s (rwS n r) V P k) V P := hI1.fr (fun c a b => hmk.2 c (by omega))
      have hqk : SQ m0 mk := hI2.tr (SQ.b (fun c hc => hmk.2 c (by omega)))
      have hGk : ∀ b, b ≤ k → PG mk (93 + b) (sgS st s (rwS n r) V P b) V P := fun b hb => by
        by_cases e : b = k
        · rw [e]; exact hmk.1
        · exact (hI3 b (by omega)).fr (hmk.2 _ (by omega))
      refine e_iload_n dX3_trySong_58 rfl ?_
      refine e_iload_n dX3_trySong_59 rfl ?_
      refine e_iload dX3_trySong_60 rfl ?_
      refine e_callSi (n := 3) mX3_noteOf [.int (nI r), .int (nI n), .int (nI k)] dX3_trySong_62 ckX3_217 rfl (by decide +kernel) rfl rfl (Nat.le_of_ble_eq_true rfl) ⟨Nat.zero_le _, Nat.zero_le _⟩ (s_noteOf mk n r k hn hr hkn) (fun v62 m4 hm4 => ?_)
      obtain ⟨rfl, rfl⟩ := hm4
      refine e_istore (L' := [some (.ref 0), some (.int (nI s)), some (.int (nI n)), some (.int (nI r)), none, some (.int (nI k)), some (.int (nI (dgS n r k)))]) dX3_trySong_65 (Nat.le_of_ble_eq_true rfl) (Nat.le_of_ble_eq_true rfl) (jnl_at (i := 5) rfl) rfl ?_
      refine e_aload_n dX3_trySong_67 rfl ?_
      refine e_getR (o := 31) (b := 31) dX3_trySong_68 lkX3_29 rfl rfl (by decide) rfl ?_
      refine e_iload_n dX3_trySong_71 rfl ?_
      refine e_iload dX3_trySong_72 rfl ?_
      refine e_callVi (n := 2) mX0_can [.int (nI s), .int (nI (dgS n r k))] dX3_trySong_74 ckX3_150 rfl (by decide +kernel) rfl rfl rfl rfl (Nat.le_of_ble_eq_true rfl) ⟨Nat.zero_le _, Nat.zero_le _⟩ (s_Ccan 31 k31 mk (sgS st s (rwS n r) V P k) V P hV hRk s hs (nI (dgS n r k))) (fun v74 m5 hm5 => ?_)
      rcases hm5 with ⟨rfl, ⟨rfl, q⟩ | ⟨rfl, q⟩⟩
      · refine e_if_ne 83 dX3_trySong_77 (by decide) (fun c77 => ?_) (fun h => absurd h (by decide))
        refine e_aload_n dX3_trySong_83 rfl ?_
        refine e_getR (o := 90) (b := 90) dX3_trySong_84 lkX3_48 rfl rfl (by decide) rfl ?_
        refine e_bipush (v := 7) dX3_trySong_87 rfl ?_
        refine e_callSv (n := 2) mArr_fill [.ref 90, .int 7] dX3_trySong_89 ckX3_272 rfl (by decide +kernel) rfl rfl (Nat.le_of_ble_eq_true rfl) ⟨Nat.zero_le _, Nat.zero_le _⟩ (s_fill3 mk 90 rfl 7) (fun mf hmf => ?_)
        refine e_aload_n dX3_trySong_92 rfl ?_
        refine e_getR (o := 90) (b := 90) dX3_trySong_93 lkX3_48 rfl rfl (by decide) rfl ?_
        refine e_iload_n dX3_trySong_96 rfl ?_
        refine e_iload dX3_trySong_97 rfl ?_
        refine e_iast dX3_trySong_99 rfl s rfl (by omega) (by decide) (fun mw hmw => ?_)
        refine e_aload_n dX3_trySong_100 rfl ?_
        refine e_getR (o := 31) (b := 31) dX3_trySong_101 lkX3_29 rfl rfl (by decide) rfl ?_
        refine e_aload_n dX3_trySong_104 rfl ?_
        refine e_getR (o := 90) (b := 90) dX3_trySong_105 lkX3_48 rfl rfl (by decide) rfl ?_
        have e90 : ∀ j, j < V → mw 90 j = ntS s (rwS n r k) j := fun j hj => by
          rw [hmw, jup_s]
          unfold ntS
          by_cases e : j = s
          · rw [e, upd_s, if_pos rfl]; rfl
          · rw [upd_n _ _ e, if_neg e, ← hmf, jup_s, cpy_in0 (by omega)]
        have hRw : RK mw 31 (sgS st s (rwS n r) V P k) V P := hRk.fr (fun c a b => by rw [hmw, jup_n _ _ (by omega), ← hmf, jup_n _ _ (by omega)])
        have hnw : ∀ j, j < V → ∃ a, a < 8 ∧ mw 90 j = nI a := fun j hj => by
          rw [e90 j hj]
          unfold ntS
          split
          · exact rwS_ok n r k
          · exact ⟨7, by decide, rfl⟩
        refine e_callVv (n := 1) mX0_singBar [.ref 90] dX3_trySong_108 ckX3_156 rfl (by decide +kernel) rfl rfl rfl rfl (Nat.le_of_ble_eq_true rfl) ⟨Nat.zero_le _, Nat.zero_le _⟩ (s_CsingBar 31 k31 mw (sgS st s (rwS n r) V P k) V P (hW.song (rwS_ok n r) k) hRw hnw) (fun mz hmz => ?_)
        refine e_iinc (v := nI (k + 1)) (L' := [some (.ref 0), some (.int (nI s)), some (.int (nI n)), some (.int (nI r)), none, some (.int (nI (k + 1))), some (.int (nI (dgS n r k)))]) dX3_trySong_111 rfl (j_inc rfl) (by decide) (jnl_at (i := 4) rfl) rfl ?_
        refine e_goto 38 dX3_trySong_114 (by decide) ?_
        refine e_weak [some (.ref 0), some (.int (nI s)), some (.int (nI n)), some (.int (nI r)), none, some (.int (nI (k + 1))), none] (by simp [jle]) ?_
        have hz1 : RK mz 31 (sgS st s (rwS n r) V P (k + 1)) V P := by
          have := hmz.1
          rw [oneB_congr e90] at this
          exact this
        refine ih () mz ⟨hz1, hqk.tr ((SQ.v mk _).tr (SQ.kf (m := jup mk 90 (mw 90)) ?_)), fun b hb => ?_, ?_, by omega, by rw [hmz.2.1 0 (by omega), hmw, jup_n _ _ (by decide), ← hmf, jup_n _ _ (by decide), hmk.2 0 (by omega), hI6]⟩
        · have : jup mk 90 (mw 90) = mw := by rw [hmw, ← hmf, jup_s, jup_jup]
          rw [this]; exact hmz.2
        · exact (hGk b (by omega)).fr (by rw [hmz.2.1 _ (by omega), hmw, jup_n _ _ (by omega), ← hmf, jup_n _ _ (by omega)])
        · show (_ && _) = true
          rw [hI4, show rwS n r k = nI (dgS n r k) from rfl, q]
          rfl
      · refine e_if_ne 83 dX3_trySong_77 (by decide) (fun h => absurd h (by decide)) (fun c77 => ?_)
        refine e_iload dX3_trySong_80 rfl ?_
        exact e_iret dX3_trySong_82 rfl (⟨k, by omega, rfl, hqk, ⟨_, hRk, sgS_SS hV _⟩, fun b hb _ => hGk b hb, hI4, fun _ => by show (_ && _) = false; rw [show rwS n r k = nI (dgS n r k) from rfl, Bool.eq_false_iff.mpr q]; exact Bool.and_false _, fun z => absurd z (by omega), by rw [hmk.2 0 (by omega), hI6]⟩)
  · have r0 : r = 0 := (j_eq (a := r) (b := 0) (by omega) (by decide)).mp (by first | exact c1 | exact Classical.byContradiction c1)
    refine e_iconst (v := 0) dX3_trySong_4 rfl ?_
    refine e_goto 18 dX3_trySong_5 (by decide) ?_
    refine e_stk (S' := [.int (nI (alk n r))]) (by unfold alk; rw [if_pos r0]; rfl) ?_
    refine e_istore (L' := [some (.ref 0), some (.int (nI s)), some (.int (nI n)), some (.int (nI r)), some (.int (nI (alk n r))), none, none]) dX3_trySong_18 (Nat.le_of_ble_eq_true rfl) (Nat.le_of_ble_eq_true rfl) (jnl_at (i := 3) rfl) rfl ?_
    refine e_aload_n dX3_trySong_20 rfl ?_
    refine e_getR (o := 31) (b := 31) dX3_trySong_21 lkX3_29 rfl rfl (by decide) rfl ?_
    refine e_aload_n dX3_trySong_24 rfl ?_
    refine e_getR (o := 92) (b := 92) dX3_trySong_25 lkX3_55 rfl rfl (by decide) rfl ?_
    refine e_iload dX3_trySong_28 rfl ?_
    refine e_aald (b := 93 + (alk n r)) dX3_trySong_30 rfl (by decide) (alk n r) rfl (by omega) (by decide) rfl ?_
    refine e_callVv (n := 1) mX0_bring [.ref (93 + (alk n r))] dX3_trySong_31 ckX3_167 rfl (by decide +kernel) rfl rfl rfl rfl (Nat.le_of_ble_eq_true rfl) ⟨Nat.zero_le _, Nat.zero_le _⟩ (s_Cbring 31 k31 m cur V P hV hP hRc (sgS st s (rwS n r) V P (alk n r)) (SS.bt hSc (sgS_SS hV _)) (93 + alk n r) (isB_l _ (by omega)) (Or.inr (by omega)) (hG _ (Nat.le_refl _))) (fun mb hmb => ?_)
    refine e_iload dX3_trySong_34 rfl ?_
    refine e_istore (L' := [some (.ref 0), some (.int (nI s)), some (.int (nI n)), some (.int (nI r)), some (.int (nI (alk n r))), some (.int (nI (alk n r))), none]) dX3_trySong_36 (Nat.le_of_ble_eq_true rfl) (Nat.le_of_ble_eq_true rfl) (jnl_at (i := 4) rfl) rfl ?_
    refine e_weak [some (.ref 0), some (.int (nI s)), some (.int (nI n)), some (.int (nI r)), none, some (.int (nI (alk n r))), none] (by simp [jle]) ?_
    refine e_loopS (σ := Unit) 38 n (fun k _ => [some (.ref 0), some (.int (nI s)), some (.int (nI n)), some (.int (nI r)), none, some (.int (nI k)), none]) (fun k _ mm => RK mm 31 (sgS st s (rwS n r) V P k) V P ∧ SQ m0 mm ∧ (∀ b, b < k ∨ (b ≤ k ∧ (b < n ∨ n = 0) ∧ b ≤ alk n r) → PG mm (93 + b) (sgS st s (rwS n r) V P b) V P) ∧ sgC st s (rwS n r) V P k = true ∧ alk n r ≤ k ∧ mm 0 = m 0) (alk n r) () (by omega) rfl (⟨hmb.1, hq.tr (SQ.kf hmb.2), fun b hb => (hG b (by omega)).fr (hmb.2.1 _ (by omega)), hC, Nat.le_refl _, hmb.2.1 0 (by omega)⟩) ?_ ?_
    · intro _ mm hI
      show jE _ _ 38 [some (.ref 0), some (.int (nI s)), some (.int (nI n)), some (.int (nI r)), none, some (.int (nI n)), none] [] mm
      obtain ⟨hI1, hI2, hI3, hI4, hI5, hI6⟩ := hI
      refine e_iload dX3_trySong_38 rfl ?_
      refine e_iload_n dX3_trySong_40 rfl ?_
      refine e_icmp_ge 117 dX3_trySong_41 (by decide) (fun c41 => ?_) (fun h => absurd (j_done rfl rfl) h)
      refine e_iload_n dX3_trySong_117 rfl ?_
      exact e_iret dX3_trySong_118 rfl (⟨n, Nat.le_refl n, rfl, hI2, ⟨_, hI1, sgS_SS hV _⟩, fun b hb hb2 => hI3 b (by omega), hI4, fun z => absurd z (by omega), fun _ => hI1, hI6⟩)
    · intro k hk_ _ mm hI ih
      show jE _ _ 38 [some (.ref 0), some (.int (nI s)), some (.int (nI n)), some (.int (nI r)), none, some (.int (nI k)), none] [] mm
      obtain ⟨hI1, hI2, hI3, hI4, hI5, hI6⟩ := hI
      have hkn : k < n := hk_
      refine e_iload dX3_trySong_38 rfl ?_
      refine e_iload_n dX3_trySong_40 rfl ?_
      refine e_icmp_ge 117 dX3_trySong_41 (by decide) (fun h => absurd h (j_more (N := n) rfl rfl (by omega) (by omega))) (fun c41 => ?_)
      refine e_aload_n dX3_trySong_44 rfl ?_
      refine e_getR (o := 31) (b := 31) dX3_trySong_45 lkX3_29 rfl rfl (by decide) rfl ?_
      refine e_aload_n dX3_trySong_48 rfl ?_
      refine e_getR (o := 92) (b := 92) dX3_trySong_49 lkX3_55 rfl rfl (by decide) rfl ?_
      refine e_iload dX3_trySong_52 rfl ?_
      refine e_aald (b := 93 + k) dX3_trySong_54 rfl (by decide) k rfl (by omega) (by decide) rfl ?_
      refine e_callVv (n := 1) mX0_keep [.ref (93 + k)] dX3_trySong_55 ckX3_264 rfl (by decide +kernel) rfl rfl rfl rfl (Nat.le_of_ble_eq_true rfl) ⟨Nat.zero_le _, Nat.zero_le _⟩ (s_Ckeep 31 k31 mm (sgS st s (rwS n r) V P k) V P hV hP hI1 (93 + k) (isB_l k (by omega)) (Or.inr (by omega))) (fun mk hmk => ?_)
      have hRk : RK mk 31 (sgS st s (rwS n r) V P k) V P := hI1.fr (fun c a b => hmk.2 c (by omega))
      have hqk : SQ m0 mk := hI2.tr (SQ.b (fun c hc => hmk.2 c (by omega)))
      have hGk : ∀ b, b ≤ k → PG mk (93 + b) (sgS st s (rwS n r) V P b) V P := fun b hb => by
        by_cases e : b = k
        · rw [e]; exact hmk.1
        · exact (hI3 b (by omega)).fr (hmk.2 _ (by omega))
      refine e_iload_n dX3_trySong_58 rfl ?_
      refine e_iload_n dX3_trySong_59 rfl ?_
      refine e_iload dX3_trySong_60 rfl ?_
      refine e_callSi (n := 3) mX3_noteOf [.int (nI r), .int (nI n), .int (nI k)] dX3_trySong_62 ckX3_217 rfl (by decide +kernel) rfl rfl (Nat.le_of_ble_eq_true rfl) ⟨Nat.zero_le _, Nat.zero_le _⟩ (s_noteOf mk n r k hn hr hkn) (fun v62 m11 hm11 => ?_)
      obtain ⟨rfl, rfl⟩ := hm11
      refine e_istore (L' := [some (.ref 0), some (.int (nI s)), some (.int (nI n)), some (.int (nI r)), none, some (.int (nI k)), some (.int (nI (dgS n r k)))]) dX3_trySong_65 (Nat.le_of_ble_eq_true rfl) (Nat.le_of_ble_eq_true rfl) (jnl_at (i := 5) rfl) rfl ?_
      refine e_aload_n dX3_trySong_67 rfl ?_
      refine e_getR (o := 31) (b := 31) dX3_trySong_68 lkX3_29 rfl rfl (by decide) rfl ?_
      refine e_iload_n dX3_trySong_71 rfl ?_
      refine e_iload dX3_trySong_72 rfl ?_
      refine e_callVi (n := 2) mX0_can [.int (nI s), .int (nI (dgS n r k))] dX3_trySong_74 ckX3_150 rfl (by decide +kernel) rfl rfl rfl rfl (Nat.le_of_ble_eq_true rfl) ⟨Nat.zero_le _, Nat.zero_le _⟩ (s_Ccan 31 k31 mk (sgS st s (rwS n r) V P k) V P hV hRk s hs (nI (dgS n r k))) (fun v74 m12 hm12 => ?_)
      rcases hm12 with ⟨rfl, ⟨rfl, q⟩ | ⟨rfl, q⟩⟩
      · refine e_if_ne 83 dX3_trySong_77 (by decide) (fun c77 => ?_) (fun h => absurd h (by decide))
        refine e_aload_n dX3_trySong_83 rfl ?_
        refine e_getR (o := 90) (b := 90) dX3_trySong_84 lkX3_48 rfl rfl (by decide) rfl ?_
        refine e_bipush (v := 7) dX3_trySong_87 rfl ?_
        refine e_callSv (n := 2) mArr_fill [.ref 90, .int 7] dX3_trySong_89 ckX3_272 rfl (by decide +kernel) rfl rfl (Nat.le_of_ble_eq_true rfl) ⟨Nat.zero_le _, Nat.zero_le _⟩ (s_fill3 mk 90 rfl 7) (fun mf hmf => ?_)
        refine e_aload_n dX3_trySong_92 rfl ?_
        refine e_getR (o := 90) (b := 90) dX3_trySong_93 lkX3_48 rfl rfl (by decide) rfl ?_
        refine e_iload_n dX3_trySong_96 rfl ?_
        refine e_iload dX3_trySong_97 rfl ?_
        refine e_iast dX3_trySong_99 rfl s rfl (by omega) (by decide) (fun mw hmw => ?_)
        refine e_aload_n dX3_trySong_100 rfl ?_
        refine e_getR (o := 31) (b := 31) dX3_trySong_101 lkX3_29 rfl rfl (by decide) rfl ?_
        refine e_aload_n dX3_trySong_104 rfl ?_
        refine e_getR (o := 90) (b := 90) dX3_trySong_105 lkX3_48 rfl rfl (by decide) rfl ?_
        have e90 : ∀ j, j < V → mw 90 j = ntS s (rwS n r k) j := fun j hj => by
          rw [hmw, jup_s]
          unfold ntS
          by_cases e : j = s
          · rw [e, upd_s, if_pos rfl]; rfl
          · rw [upd_n _ _ e, if_neg e, ← hmf, jup_s, cpy_in0 (by omega)]
        have hRw : RK mw 31 (sgS st s (rwS n r) V P k) V P := hRk.fr (fun c a b => by rw [hmw, jup_n _ _ (by omega), ← hmf, jup_n _ _ (by omega)])
        have hnw : ∀ j, j < V → ∃ a, a < 8 ∧ mw 90 j = nI a := fun j hj => by
          rw [e90 j hj]
          unfold ntS
          split
          · exact rwS_ok n r k
          · exact ⟨7, by decide, rfl⟩
        refine e_callVv (n := 1) mX0_singBar [.ref 90] dX3_trySong_108 ckX3_156 rfl (by decide +kernel) rfl rfl rfl rfl (Nat.le_of_ble_eq_true rfl) ⟨Nat.zero_le _, Nat.zero_le _⟩ (s_CsingBar 31 k31 mw (sgS st s (rwS n r) V P k) V P (hW.song (rwS_ok n r) k) hRw hnw) (fun mz hmz => ?_)
        refine e_iinc (v := nI (k + 1)) (L' := [some (.ref 0), some (.int (nI s)), some (.int (nI n)), some (.int (nI r)), none, some (.int (nI (k + 1))), some (.int (nI (dgS n r k)))]) dX3_trySong_111 rfl (j_inc rfl) (by decide) (jnl_at (i := 4) rfl) rfl ?_
        refine e_goto 38 dX3_trySong_114 (by decide) ?_
        refine e_weak [some (.ref 0), some (.int (nI s)), some (.int (nI n)), some (.int (nI r)), none, some (.int (nI (k + 1))), none] (by simp [jle]) ?_
        have hz1 : RK mz 31 (sgS st s (rwS n r) V P (k + 1)) V P := by
          have := hmz.1
          rw [oneB_congr e90] at this
          exact this
        refine ih () mz ⟨hz1, hqk.tr ((SQ.v mk _).tr (SQ.kf (m := jup mk 90 (mw 90)) ?_)), fun b hb => ?_, ?_, by omega, by rw [hmz.2.1 0 (by omega), hmw, jup_n _ _ (by decide), ← hmf, jup_n _ _ (by decide), hmk.2 0 (by omega), hI6]⟩
        · have : jup mk 90 (mw 90) = mw := by rw [hmw, ← hmf, jup_s, jup_jup]
          rw [this]; exact hmz.2
        · exact (hGk b (by omega)).fr (by rw [hmz.2.1 _ (by omega), hmw, jup_n _ _ (by omega), ← hmf, jup_n _ _ (by omega)])
        · show (_ && _) = true
          rw [hI4, show rwS n r k = nI (dgS n r k) from rfl, q]
          rfl
      · refine e_if_ne 83 dX3_trySong_77 (by decide) (fun h => absurd h (by decide)) (fun c77 => ?_)
        refine e_iload dX3_trySong_80 rfl ?_
        exact e_iret dX3_trySong_82 rfl (⟨k, by omega, rfl, hqk, ⟨_, hRk, sgS_SS hV _⟩, fun b hb _ => hGk b hb, hI4, fun _ => by show (_ && _) = false; rw [show rwS n r k = nI (dgS n r k) from rfl, Bool.eq_false_iff.mpr q]; exact Bool.and_false _, fun z => absurd z (by omega), by rw [hmk.2 0 (by omega), hI6]⟩)

set_option maxHeartbeats 2000000 in
set_option maxRecDepth 20000 in
theorem s_weigh (m : jM) (st : Nat → Int32) (V P : Nat) (hW : WK st V P) (s : Nat) (hs : s < V) (n r : Nat) (hn : n ≤ 4) (hr : r < 8 ^ n) (hR : RK m 31 (sgS st s (rwS n r) V P n) V P) (hC : sgC st s (rwS n r) V P n = true) (hb : (m 0 12 = (soB st s n V P r).1 ∧ ((soB st s n V P r).1 < 0 ∨ (m 0 13 = nI (soB st s n V P r).2.1 ∧ m 0 11 = nI (soB st s n V P r).2.2)))) : vX mX3_weighSong [.ref 0, .int (nI r), .int (nI n)] m (fun m1 => SQ m m1 ∧ (∀ c, c ≠ 0 → m1 c = m c) ∧ m1 0 17 = m 0 17 ∧ (m1 0 12 = (soB st s n V P (r + 1)).1 ∧ ((soB st s n V P (r + 1)).1 < 0 ∨ (m1 0 13 = nI (soB st s n V P (r + 1)).2.1 ∧ m1 0 11 = nI (soB st s n V P (r + 1)).2.2)))) := by
  have hV := hW.v3
  have hP := hW.p5
  refine jX_of (L := [some (.ref 0), some (.int (nI r)), some (.int (nI n)), none, none, none]) 3 rfl rfl (by decide +kernel) rfl ?_
  refine e_aload_n dX3_weighSong_0 rfl ?_
  refine e_getR (o := 31) (b := 31) dX3_weighSong_1 lkX3_29 rfl rfl (by decide) rfl ?_
  refine e_callVi (n := 0) mX0_setPans [] dX3_weighSong_4 ckX3_160 rfl (by decide +kernel) rfl rfl rfl rfl (Nat.le_of_ble_eq_true rfl) ⟨Nat.zero_le _, Nat.zero_le _⟩ (s_CsetPans 31 k31 m (sgS st s (rwS n r) V P n) V P (hW.song (rwS_ok n r) n) hR) (fun v4 m1 hm1 => ?_)
  obtain ⟨rfl, rfl⟩ := hm1
  refine e_callSi (n := 1) mInt_bitCount [.int (setB (sgS st s (rwS n r) V P n) P)] dX3_weighSong_7 ckX3_209 rfl (by decide +kernel) rfl rfl (Nat.le_of_ble_eq_true rfl) ⟨Nat.zero_le _, Nat.zero_le _⟩ (s_bitX m (setB (sgS st s (rwS n r) V P n) P)) (fun v7 m2 hm2 => ?_)
  obtain ⟨rfl, rfl⟩ := hm2
  rw [show bcX (setB (sgS st s (rwS n r) V P n) P) = soV st s n V P r from bc_set (hW.song (rwS_ok n r) n)]
  refine e_istore_n (L' := [some (.ref 0), some (.int (nI r)), some (.int (nI n)), some (.int (soV st s n V P r)), none, none]) dX3_weighSong_10 (Nat.le_of_ble_eq_true rfl) (Nat.le_of_ble_eq_true rfl) (jnl_at (i := 2) rfl) rfl ?_
  refine e_iconst (v := 0) dX3_weighSong_11 rfl ?_
  refine e_istore (L' := [some (.ref 0), some (.int (nI r)), some (.int (nI n)), some (.int (soV st s n V P r)), some (.int 0), none]) dX3_weighSong_12 (Nat.le_of_ble_eq_true rfl) (Nat.le_of_ble_eq_true rfl) (jnl_at (i := 3) rfl) rfl ?_
  refine e_iconst (v := 0) dX3_weighSong_14 rfl ?_
  refine e_istore (L' := [some (.ref 0), some (.int (nI r)), some (.int (nI n)), some (.int (soV st s n V P r)), some (.int 0), some (.int 0)]) dX3_weighSong_15 (Nat.le_of_ble_eq_true rfl) (Nat.le_of_ble_eq_true rfl) (jnl_at (i := 4) rfl) rfl ?_
  refine e_loop 17 n (fun j => [some (.ref 0), some (.int (nI r)), some (.int (nI n)), some (.int (soV st s n V P r)), some (.int (nI (sgN (rwS n r) j))), some (.int (nI j))]) (fun j => m) 0 (Nat.zero_le _) rfl (rfl) ?_ ?_
  · show jE _ _ 17 [some (.ref 0), some (.int (nI r)), some (.int (nI n)), some (.int (soV st s n V P r)), some (.int (nI (sgN (rwS n r) n))), some (.int (nI n))] [] m
    refine e_iload dX3_weighSong_17 rfl ?_
    refine e_iload_n dX3_weighSong_19 rfl ?_
    refine e_icmp_ge 51 dX3_weighSong_20 (by decide) (fun c20 => ?_) (fun h => absurd (j_done rfl rfl) h)
    refine e_iload_n dX3_weighSong_51 rfl ?_
    refine e_aload_n dX3_weighSong_52 rfl ?_
    refine e_getI dX3_weighSong_53 lkX3_61 rfl rfl ?_
    rw [show m 0 12 = (soB st s n V P r).1 from hb.1]
    refine e_icmp_gt 76 dX3_weighSong_56 (by decide) (fun c56 => ?_) (fun c56 => ?_)
    · refine e_aload_n dX3_weighSong_76 rfl ?_
      refine e_iload_n dX3_weighSong_77 rfl ?_
      refine e_putI dX3_weighSong_78 lkX3_58 rfl rfl fwX3_11 (Or.inl rfl) (fun ma hma => ?_)
      refine e_aload_n dX3_weighSong_81 rfl ?_
      refine e_iload_n dX3_weighSong_82 rfl ?_
      refine e_putI dX3_weighSong_83 lkX3_61 rfl rfl fwX3_12 (Or.inl rfl) (fun mb hmb => ?_)
      refine e_aload_n dX3_weighSong_86 rfl ?_
      refine e_iload dX3_weighSong_87 rfl ?_
      refine e_putI dX3_weighSong_89 lkX3_64 rfl rfl fwX3_13 (Or.inl rfl) (fun mc hmc => ?_)
      exact e_vret dX3_weighSong_92 rfl (by
          have eB : soB st s n V P (r + 1) = (soV st s n V P r, sgN (rwS n r) n, r) := if_pos ⟨hC, by first | exact Or.inl c56 | exact Or.inr ⟨by first | exact c64 | exact Classical.byContradiction c64, by rcases hb.2 with y | y; exact absurd y (Int32.not_lt.mpr (by rw [show (soB st s n V P r).1 = soV st s n V P r from (by first | exact c64.symm | exact (Classical.byContradiction c64).symm)]; exact soV_pos)); rw [y.1] at c73; exact (j_lt (by have := sgN_le (rwS n r) n; omega) (by have := soB_lt (st := st) (s := s) (n := n) (V := V) (P := P) r; omega)).mp (Int32.not_le.mp c73)⟩⟩
          refine ⟨⟨fun c a _ _ _ _ => by rw [hmc, jup_n _ _ a, hmb, jup_n _ _ a, hma, jup_n _ _ a], fun f a b c _ => by rw [hmc, jup_s, upd_n _ _ c, hmb, jup_s, upd_n _ _ b, hma, jup_s, upd_n _ _ a]⟩, fun c a => by rw [hmc, jup_n _ _ a, hmb, jup_n _ _ a, hma, jup_n _ _ a], by rw [hmc, jup_s, upd_n _ _ (by decide), hmb, jup_s, upd_n _ _ (by decide), hma, jup_s, upd_n _ _ (by decide)], ?_⟩
          rw [eB]
          exact ⟨by rw [hmc, jup_s, upd_n _ _ (by decide), hmb, jup_s, upd_s], Or.inr ⟨by rw [hmc, jup_s, upd_s], by rw [hmc, jup_s, upd_n _ _ (by decide), hmb, jup_s, upd_n _ _ (by decide), hma, jup_s, upd_s]⟩⟩)
    · refine e_iload_n dX3_weighSong_59 rfl ?_
      refine e_aload_n dX3_weighSong_60 rfl ?_
      refine e_getI dX3_weighSong_61 lkX3_61 rfl rfl ?_
      rw [show m 0 12 = (soB st s n V P r).1 from hb.1]
      refine e_icmp_ne 92 dX3_weighSong_64 (by decide) (fun c64 => ?_) (fun c64 => ?_)
      · exact e_vret dX3_weighSong_92 rfl (by
          have eB : soB st s n V P (r + 1) = soB st s n V P r := if_neg (fun z => z.2.elim (fun w => c56 w) (fun w => by first | exact c64 w.1 | (rcases hb.2 with y | y; exact absurd y (Int32.not_lt.mpr (by rw [← w.1]; exact soV_pos)); rw [y.1] at c73; exact absurd ((j_lt (by have := sgN_le (rwS n r) n; omega) (by have := soB_lt (st := st) (s := s) (n := n) (V := V) (P := P) r; omega)).mpr w.2) (Int32.not_lt.mpr c73))))
          exact ⟨SQ.rf, fun _ _ => rfl, rfl, by rw [eB]; exact hb⟩)
      · refine e_iload dX3_weighSong_67 rfl ?_
        refine e_aload_n dX3_weighSong_69 rfl ?_
        refine e_getI dX3_weighSong_70 lkX3_64 rfl rfl ?_
        refine e_icmp_ge 92 dX3_weighSong_73 (by decide) (fun c73 => ?_) (fun c73 => ?_)
        · exact e_vret dX3_weighSong_92 rfl (by
          have eB : soB st s n V P (r + 1) = soB st s n V P r := if_neg (fun z => z.2.elim (fun w => c56 w) (fun w => by first | exact c64 w.1 | (rcases hb.2 with y | y; exact absurd y (Int32.not_lt.mpr (by rw [← w.1]; exact soV_pos)); rw [y.1] at c73; exact absurd ((j_lt (by have := sgN_le (rwS n r) n; omega) (by have := soB_lt (st := st) (s := s) (n := n) (V := V) (P := P) r; omega)).mpr w.2) (Int32.not_lt.mpr c73))))
          exact ⟨SQ.rf, fun _ _ => rfl, rfl, by rw [eB]; exact hb⟩)
        · refine e_aload_n dX3_weighSong_76 rfl ?_
          refine e_iload_n dX3_weighSong_77 rfl ?_
          refine e_putI dX3_weighSong_78 lkX3_58 rfl rfl fwX3_11 (Or.inl rfl) (fun ma hma => ?_)
          refine e_aload_n dX3_weighSong_81 rfl ?_
          refine e_iload_n dX3_weighSong_82 rfl ?_
          refine e_putI dX3_weighSong_83 lkX3_61 rfl rfl fwX3_12 (Or.inl rfl) (fun mb hmb => ?_)
          refine e_aload_n dX3_weighSong_86 rfl ?_
          refine e_iload dX3_weighSong_87 rfl ?_
          refine e_putI dX3_weighSong_89 lkX3_64 rfl rfl fwX3_13 (Or.inl rfl) (fun mc hmc => ?_)
          exact e_vret dX3_weighSong_92 rfl (by
          have eB : soB st s n V P (r + 1) = (soV st s n V P r, sgN (rwS n r) n, r) := if_pos ⟨hC, by first | exact Or.inl c56 | exact Or.inr ⟨by first | exact c64 | exact Classical.byContradiction c64, by rcases hb.2 with y | y; exact absurd y (Int32.not_lt.mpr (by rw [show (soB st s n V P r).1 = soV st s n V P r from (by first | exact c64.symm | exact (Classical.byContradiction c64).symm)]; exact soV_pos)); rw [y.1] at c73; exact (j_lt (by have := sgN_le (rwS n r) n; omega) (by have := soB_lt (st := st) (s := s) (n := n) (V := V) (P := P) r; omega)).mp (Int32.not_le.mp c73)⟩⟩
          refine ⟨⟨fun c a _ _ _ _ => by rw [hmc, jup_n _ _ a, hmb, jup_n _ _ a, hma, jup_n _ _ a], fun f a b c _ => by rw [hmc, jup_s, upd_n _ _ c, hmb, jup_s, upd_n _ _ b, hma, jup_s, upd_n _ _ a]⟩, fun c a => by rw [hmc, jup_n _ _ a, hmb, jup_n _ _ a, hma, jup_n _ _ a], by rw [hmc, jup_s, upd_n _ _ (by decide), hmb, jup_s, upd_n _ _ (by decide), hma, jup_s, upd_n _ _ (by decide)], ?_⟩
          rw [eB]
          exact ⟨by rw [hmc, jup_s, upd_n _ _ (by decide), hmb, jup_s, upd_s], Or.inr ⟨by rw [hmc, jup_s, upd_s], by rw [hmc, jup_s, upd_n _ _ (by decide), hmb, jup_s, upd_n _ _ (by decide), hma, jup_s, upd_s]⟩⟩)
  · intro j hjn ih
    show jE _ _ 17 [some (.ref 0), some (.int (nI r)), some (.int (nI n)), some (.int (soV st s n V P r)), some (.int (nI (sgN (rwS n r) j))), some (.int (nI j))] [] m
    refine e_iload dX3_weighSong_17 rfl ?_
    refine e_iload_n dX3_weighSong_19 rfl ?_
    refine e_icmp_ge 51 dX3_weighSong_20 (by decide) (fun h => absurd h (j_more (N := n) rfl rfl (by omega) (by omega))) (fun c20 => ?_)
    refine e_iload dX3_weighSong_23 rfl ?_
    refine e_iload_n dX3_weighSong_25 rfl ?_
    refine e_iload_n dX3_weighSong_26 rfl ?_
    refine e_iload dX3_weighSong_27 rfl ?_
    refine e_callSi (n := 3) mX3_noteOf [.int (nI r), .int (nI n), .int (nI j)] dX3_weighSong_29 ckX3_217 rfl (by decide +kernel) rfl rfl (Nat.le_of_ble_eq_true rfl) ⟨Nat.zero_le _, Nat.zero_le _⟩ (s_noteOf m n r j hn hr hjn) (fun v29 m9 hm9 => ?_)
    obtain ⟨rfl, rfl⟩ := hm9
    refine e_bipush (v := 7) dX3_weighSong_32 rfl ?_
    refine e_icmp_ne 41 dX3_weighSong_34 (by decide) (fun c34 => ?_) (fun c34 => ?_)
    · refine e_iconst (v := 1) dX3_weighSong_41 rfl ?_
      refine e_iadd dX3_weighSong_42 ?_
      rw [show (nI (sgN (rwS n r) j)) + 1 = nI ((sgN (rwS n r) j) + 1) from (j_add rfl rfl)]
      refine e_istore (L' := [some (.ref 0), some (.int (nI r)), some (.int (nI n)), some (.int (soV st s n V P r)), some (.int (nI ((sgN (rwS n r) j) + 1))), some (.int (nI j))]) dX3_weighSong_43 (Nat.le_of_ble_eq_true rfl) (Nat.le_of_ble_eq_true rfl) (jnl_at (i := 3) rfl) rfl ?_
      refine e_iinc (v := nI (j + 1)) (L' := [some (.ref 0), some (.int (nI r)), some (.int (nI n)), some (.int (soV st s n V P r)), some (.int (nI ((sgN (rwS n r) j) + 1))), some (.int (nI (j + 1)))]) dX3_weighSong_45 rfl (j_inc rfl) (by decide) (jnl_at (i := 4) rfl) rfl ?_
      refine e_goto 17 dX3_weighSong_48 (by decide) ?_
      have eS : sgN (rwS n r) (j + 1) = sgN (rwS n r) j + 1 := by
        show sgN (rwS n r) j + (if nI (dgS n r j) < 7 then 1 else 0) = _
        have hl := dgS_lt n r j
        rw [if_pos (show nI (dgS n r j) < 7 from (j_lt (a := dgS n r j) (b := 7) (by omega) (by decide)).mpr (by have : ¬ dgS n r j = 7 := fun z => c34 (by rw [z]; rfl); omega))]
      refine e_start (by simp only [eS]) rfl ih
    · refine e_iconst (v := 0) dX3_weighSong_37 rfl ?_
      refine e_goto 42 dX3_weighSong_38 (by decide) ?_
      refine e_iadd dX3_weighSong_42 ?_
      rw [show (nI (sgN (rwS n r) j)) + 0 = nI ((sgN (rwS n r) j) + 0) from (j_add rfl rfl)]
      refine e_istore (L' := [some (.ref 0), some (.int (nI r)), some (.int (nI n)), some (.int (soV st s n V P r)), some (.int (nI ((sgN (rwS n r) j) + 0))), some (.int (nI j))]) dX3_weighSong_43 (Nat.le_of_ble_eq_true rfl) (Nat.le_of_ble_eq_true rfl) (jnl_at (i := 3) rfl) rfl ?_
      refine e_iinc (v := nI (j + 1)) (L' := [some (.ref 0), some (.int (nI r)), some (.int (nI n)), some (.int (soV st s n V P r)), some (.int (nI ((sgN (rwS n r) j) + 0))), some (.int (nI (j + 1)))]) dX3_weighSong_45 rfl (j_inc rfl) (by decide) (jnl_at (i := 4) rfl) rfl ?_
      refine e_goto 17 dX3_weighSong_48 (by decide) ?_
      have eS : sgN (rwS n r) (j + 1) = sgN (rwS n r) j + 0 := by
        show sgN (rwS n r) j + (if nI (dgS n r j) < 7 then 1 else 0) = _
        have hl := dgS_lt n r j
        rw [if_neg (show ¬ nI (dgS n r j) < 7 from fun z => absurd ((j_lt (a := dgS n r j) (b := 7) (by omega) (by decide)).mp z) (by have : dgS n r j = 7 := (j_eq (a := dgS n r j) (b := 7) (by omega) (by decide)).mp (by first | exact c34 | exact Classical.byContradiction c34); omega))]
      refine e_start (by simp only [eS]) rfl ih

set_option maxHeartbeats 2000000 in
set_option maxRecDepth 20000 in
theorem s_seekS (m : jM) (st : Nat → Int32) (V P : Nat) (hW : WK st V P) (hR : RK m 20 st V P) (h01 : m 20 0 = 1) (s : Nat) (hs : s < V) (n : Nat) (hn : n ≤ 4) : vX mX3_seekSong [.ref 0, .int (nI s), .int (nI n)] m (fun m1 => SQ m m1 ∧ m1 0 12 = (soB st s n V P (8 ^ n)).1 ∧ m1 0 11 = nI (soB st s n V P (8 ^ n)).2.2 ∧ m1 0 17 = m 0 17) := by
  have hV := hW.v3
  have hP := hW.p5
  have h4096 := eight_le hn
  refine jX_of (L := [some (.ref 0), some (.int (nI s)), some (.int (nI n)), none, none, none]) 3 rfl rfl (by decide +kernel) rfl ?_
  refine e_aload_n dX3_seekSong_0 rfl ?_
  refine e_iconst (v := -1) dX3_seekSong_1 rfl ?_
  refine e_putI dX3_seekSong_2 lkX3_61 rfl rfl fwX3_12 (Or.inl rfl) (fun ma hma => ?_)
  have e12 : ma 0 12 = -1 := by rw [hma, jup_s, upd_s]
  refine e_aload_n dX3_seekSong_5 rfl ?_
  refine e_getR (o := 31) (b := 31) dX3_seekSong_6 lkX3_29 rfl rfl (by decide) rfl ?_
  refine e_aload_n dX3_seekSong_9 rfl ?_
  refine e_getR (o := 20) (b := 20) dX3_seekSong_10 lkX3_25 rfl rfl (by decide) rfl ?_
  have hqa : SQ m ma := by rw [hma]; exact ⟨fun c a _ _ _ _ => jup_n _ _ a, fun f _ a _ _ => by rw [jup_s, upd_n _ _ a]⟩
  refine e_callVv (n := 1) mX0_takeFrom [.ref 20] dX3_seekSong_13 ckX3_137 rfl (by decide +kernel) rfl rfl rfl rfl (Nat.le_of_ble_eq_true rfl) ⟨Nat.zero_le _, Nat.zero_le _⟩ (s_CtakeFrom 31 20 k31 k20 (by decide) ma st V P hV hP (hqa.rk hR) (Or.inr (by rw [hqa.c 20 (by decide) (by decide)]; exact h01))) (fun mu hmu => ?_)
  obtain ⟨hRu, eu1, eu⟩ := hmu
  have hqu : SQ m mu := hqa.tr (SQ.k eu)
  refine e_aload_n dX3_seekSong_16 rfl ?_
  refine e_getR (o := 31) (b := 31) dX3_seekSong_17 lkX3_29 rfl rfl (by decide) rfl ?_
  refine e_aload_n dX3_seekSong_20 rfl ?_
  refine e_getR (o := 92) (b := 92) dX3_seekSong_21 lkX3_55 rfl rfl (by decide) rfl ?_
  refine e_iconst (v := 0) dX3_seekSong_24 rfl ?_
  refine e_aald (b := 93) dX3_seekSong_25 rfl (by decide) 0 rfl (by decide) (by decide) rfl ?_
  refine e_callVv (n := 1) mX0_keep [.ref 93] dX3_seekSong_26 ckX3_264 rfl (by decide +kernel) rfl rfl rfl rfl (Nat.le_of_ble_eq_true rfl) ⟨Nat.zero_le _, Nat.zero_le _⟩ (s_Ckeep 31 k31 mu st V P hV hP hRu 93 rfl (Or.inr (by decide))) (fun mk hmk => ?_)
  have hq0 : SQ m mk := hqu.tr (SQ.b (fun c hc => hmk.2 c (by omega)))
  have hT0 : TK mk st V P := ⟨st, hRu.fr (fun c a b => hmk.2 c (by omega)), fun _ _ => rfl⟩
  have hG0 : PG mk (93 + 0) st V P := hmk.1
  have hb0 : mk 0 12 = -1 := by rw [hmk.2 0 (by decide), eu 0 (by omega), e12]
  refine e_iconst (v := 0) dX3_seekSong_29 rfl ?_
  refine e_istore_n (L' := [some (.ref 0), some (.int (nI s)), some (.int (nI n)), some (.int 0), none, none]) dX3_seekSong_30 (Nat.le_of_ble_eq_true rfl) (Nat.le_of_ble_eq_true rfl) (jnl_at (i := 2) rfl) rfl ?_
  refine e_weak [some (.ref 0), some (.int (nI s)), some (.int (nI n)), some (.int (nI 0)), none, none] (by simp [jle]; first | rfl | trivial | exact ⟨rfl, rfl, rfl, rfl⟩) ?_
  refine e_loopM (σ := Nat) 31 (fun r => [some (.ref 0), some (.int (nI s)), some (.int (nI n)), some (.int (nI r)), none, none]) (fun r mm => r ≤ 8 ^ n ∧ SQ m mm ∧ TK mm st V P ∧ (r < 8 ^ n → (∀ b, b ≤ alk n r → PG mm (93 + b) (sgS st s (rwS n r) V P b) V P) ∧ sgC st s (rwS n r) V P (alk n r) = true) ∧ mm 0 17 = m 0 17 ∧ (mm 0 12 = (soB st s n V P r).1 ∧ ((soB st s n V P r).1 < 0 ∨ (mm 0 13 = nI (soB st s n V P r).2.1 ∧ mm 0 11 = nI (soB st s n V P r).2.2)))) (fun r => 8 ^ n - r) 0 rfl ?_ ?_
  · exact ⟨Nat.zero_le _, hq0, hT0, fun _ => ⟨fun b hb => by rw [show b = 0 by rw [show alk n 0 = 0 from rfl] at hb; omega]; exact hG0, rfl⟩, by rw [hmk.2 0 (by decide), eu 0 (by omega), hma, jup_s, upd_n _ _ (by decide)], hb0, Or.inl (show (-1 : Int32) < 0 by decide)⟩
  intro r mm hI ih
  obtain ⟨hr8, hqm, hTm, hpm, h17, hbm⟩ := hI
  show jE _ _ 31 [some (.ref 0), some (.int (nI s)), some (.int (nI n)), some (.int (nI r)), none, none] [] mm
  refine e_iload_n dX3_seekSong_31 rfl ?_
  refine e_iconst (v := 1) dX3_seekSong_32 rfl ?_
  refine e_iconst (v := 3) dX3_seekSong_33 rfl ?_
  refine e_iload_n dX3_seekSong_34 rfl ?_
  refine e_imul dX3_seekSong_35 ?_
  rw [show 3 * (nI n) = nI (3 * n) from pk_mul 3 n]
  refine e_ishl dX3_seekSong_36 ?_
  rw [show 1 <<< ((nI (3 * n)) &&& 31) = nI (8 ^ n) from shl3 n (by omega)]
  refine e_icmp_ge 90 dX3_seekSong_37 (by decide) (fun c37 => ?_) (fun c37 => ?_)
  · have hre : r = 8 ^ n := by have := (j_le (by omega) (by omega)).mp c37; omega
    exact e_vret dX3_seekSong_90 rfl (by
      subst hre
      refine ⟨hqm, hbm.1, ?_, h17⟩
      rcases hbm.2 with y | y
      · exact absurd y (Int32.not_lt.mpr (soB_end hn))
      · exact y.2)
  · refine e_aload_n dX3_seekSong_40 rfl ?_
    refine e_iload_n dX3_seekSong_41 rfl ?_
    refine e_iload_n dX3_seekSong_42 rfl ?_
    refine e_iload_n dX3_seekSong_43 rfl ?_
    have hr : r < 8 ^ n := (j_lt (by have := eight_le hn; omega) (by have := eight_le hn; omega)).mp (Int32.not_le.mp c37)
    obtain ⟨hpG, hpC⟩ := hpm hr
    refine e_callVi (n := 3) mX3_trySong [.int (nI s), .int (nI n), .int (nI r)] dX3_seekSong_44 ckX3_281 rfl (by decide +kernel) rfl rfl rfl rfl (Nat.le_of_ble_eq_true rfl) ⟨Nat.zero_le _, Nat.zero_le _⟩ (s_trySong m mm hqm st V P hW s hs n r hn hr hTm hpG hpC) (fun v44 mt hmt => ?_)
    obtain ⟨c, hcn, rfl, hqt, hTt, hGt, hCt, hNt, hRt, hqt0⟩ := hmt
    refine e_istore (L' := [some (.ref 0), some (.int (nI s)), some (.int (nI n)), some (.int (nI r)), some (.int (nI c)), none]) dX3_seekSong_47 (Nat.le_of_ble_eq_true rfl) (Nat.le_of_ble_eq_true rfl) (jnl_at (i := 3) rfl) rfl ?_
    refine e_iload dX3_seekSong_49 rfl ?_
    refine e_iload_n dX3_seekSong_51 rfl ?_
    refine e_icmp_lt 67 dX3_seekSong_52 (by decide) (fun c52 => ?_) (fun c52 => ?_)
    · have hclt : c < n := (j_lt (by omega) (by omega)).mp c52
      refine e_iconst (v := 3) dX3_seekSong_67 rfl ?_
      refine e_iload_n dX3_seekSong_68 rfl ?_
      refine e_iconst (v := 1) dX3_seekSong_69 rfl ?_
      refine e_isub dX3_seekSong_70 ?_
      rw [show (nI n) - 1 = nI (n - 1) from pk_sub (a := n) (b := 1) (by omega)]
      refine e_iload dX3_seekSong_71 rfl ?_
      refine e_isub dX3_seekSong_73 ?_
      rw [show (nI (n - 1)) - (nI c) = nI (n - 1 - c) from pk_sub (by omega)]
      refine e_imul dX3_seekSong_74 ?_
      rw [show 3 * (nI (n - 1 - c)) = nI (3 * (n - 1 - c)) from pk_mul 3 _]
      refine e_istore (L' := [some (.ref 0), some (.int (nI s)), some (.int (nI n)), some (.int (nI r)), some (.int (nI c)), some (.int (nI (3 * (n - 1 - c))))]) dX3_seekSong_75 (Nat.le_of_ble_eq_true rfl) (Nat.le_of_ble_eq_true rfl) (jnl_at (i := 4) rfl) rfl ?_
      refine e_iload_n dX3_seekSong_77 rfl ?_
      refine e_iload dX3_seekSong_78 rfl ?_
      refine e_ishr dX3_seekSong_80 ?_
      refine e_iconst (v := 1) dX3_seekSong_81 rfl ?_
      refine e_iadd dX3_seekSong_82 ?_
      refine e_iload dX3_seekSong_83 rfl ?_
      refine e_ishl dX3_seekSong_85 ?_
      rw [show (((nI r) >>> ((nI (3 * (n - 1 - c))) &&& 31)) + 1) <<< ((nI (3 * (n - 1 - c))) &&& 31) = nI (nxt n c r) from nxt_I n (by omega) c hclt r hr]
      refine e_istore_n (L' := [some (.ref 0), some (.int (nI s)), some (.int (nI n)), some (.int (nI (nxt n c r))), some (.int (nI c)), some (.int (nI (3 * (n - 1 - c))))]) dX3_seekSong_86 (Nat.le_of_ble_eq_true rfl) (Nat.le_of_ble_eq_true rfl) (jnl_at (i := 2) rfl) rfl ?_
      refine e_goto 31 dX3_seekSong_87 (by decide) ?_
      refine e_weak [some (.ref 0), some (.int (nI s)), some (.int (nI n)), some (.int (nI (nxt n c r))), none, none] (by simp [jle]) ?_
      have hN := nxt_all hn hcn hr
      refine ih (nxt n c r) mt (by omega) ⟨hN.2.1, hqt, hTt, fun hl => ?_, by rw [hqt0]; exact h17, ?_⟩
      · obtain ⟨x1, x2, x3⟩ := hN.2.2 hl
        refine ⟨fun b hb => ?_, ?_⟩
        · rw [sgS_pre (fun p hp => x3 p (by omega))]
          exact hGt b (by omega) (by omega)
        · rw [sgC_pre x3]
          exact sgC_le hCt _ x1
      · have hsk := soB_skip (st := st) (V := V) (P := P) (s := s) hclt (hNt hclt) (nxt n c r - r) (by omega)
        rw [show r + (nxt n c r - r) = nxt n c r by omega] at hsk
        rw [hsk]
        rw [hqt0]
        exact hbm
    · refine e_aload_n dX3_seekSong_55 rfl ?_
      refine e_iload_n dX3_seekSong_56 rfl ?_
      refine e_iload_n dX3_seekSong_57 rfl ?_
      have hnc : ¬ c < n := fun z => c52 ((j_lt (by omega) (by omega)).mpr z)
      have hcn2 : c = n := by omega
      have hCn := hCt
      rw [hcn2] at hCn
      refine e_callVv (n := 2) mX3_weighSong [.int (nI r), .int (nI n)] dX3_seekSong_58 ckX3_284 rfl (by decide +kernel) rfl rfl rfl rfl (Nat.le_of_ble_eq_true rfl) ⟨Nat.zero_le _, Nat.zero_le _⟩ (s_weigh mt st V P hW s hs n r hn hr (hRt hcn2) hCn (by rw [hqt0]; exact hbm)) (fun mw hmw => ?_)
      refine e_iinc (v := nI (r + 1)) (L' := [some (.ref 0), some (.int (nI s)), some (.int (nI n)), some (.int (nI (r + 1))), some (.int (nI c)), none]) dX3_seekSong_61 rfl (j_inc rfl) (by decide) (jnl_at (i := 2) rfl) rfl ?_
      refine e_goto 87 dX3_seekSong_64 (by decide) ?_
      refine e_goto 31 dX3_seekSong_87 (by decide) ?_
      refine e_weak [some (.ref 0), some (.int (nI s)), some (.int (nI n)), some (.int (nI (r + 1))), none, none] (by simp [jle]) ?_
      have hcn2 : c = n := by omega
      have hnx : nxt n c r = r + 1 := if_pos hcn2
      have hN := nxt_all hn hcn hr
      rw [hnx] at hN
      refine ih (r + 1) mw (by omega) ⟨hN.2.1, hqt.tr hmw.1, ?_, fun hl => ?_, by rw [hmw.2.2.1, hqt0]; exact h17, hmw.2.2.2⟩
      · obtain ⟨cur, h1, h2⟩ := hTt
        exact ⟨cur, h1.fr (fun c a b => hmw.2.1 c (by omega)), h2⟩
      · obtain ⟨x1, x2, x3⟩ := hN.2.2 hl
        refine ⟨fun b hb => ?_, ?_⟩
        · rw [sgS_pre (fun p hp => x3 p (by omega))]
          exact (hGt b (by omega) (by omega)).fr (hmw.2.1 _ (by omega))
        · rw [sgC_pre x3]
          exact sgC_le hCt _ x1
