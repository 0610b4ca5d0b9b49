/-! ===== the class: acts, bars, images ===== -/
theorem PG.fr {m m1 : jM} {pg : Nat} {st : Nat → Int32} {V P : Nat} (h : PG m pg st V P) (e : m1 pg = m pg) : PG m1 pg st V P := by
  unfold PG
  rw [e]
  exact h
def nxA (q : Nat) : Nat := if q = 23 then 0 else q + 1
def pvA (q : Nat) : Nat := if q = 0 then 23 else q - 1
theorem nx_23 {q : Nat} (hq : q < 24) (h : nI q = 23) : (0 : Int32) = nI (nxA q) := by
  have : q = 23 := (j_eq (a := q) (b := 23) (by omega) (by decide)).mp h
  rw [this]; rfl
theorem nx_no {q : Nat} (h : ¬ nI q = 23) : nI (q + 1) = nI (nxA q) := by
  have : ¬ q = 23 := fun z => h (by rw [z]; rfl)
  unfold nxA
  rw [if_neg this]
theorem pv_0 {q : Nat} (hq : q < 24) (h : nI q = 0) : (23 : Int32) = nI (pvA q) := by
  have : q = 0 := (j_eq (a := q) (b := 0) (by omega) (by decide)).mp h
  rw [this]; rfl
theorem pv_no {q : Nat} (hq : q < 24) (h : ¬ nI q = 0) : nI q - 1 = nI (pvA q) := by
  have : ¬ q = 0 := fun z => h (by rw [z]; rfl)
  unfold pvA
  rw [if_neg this]
  exact pk_sub (a := q) (b := 1) (by omega)
theorem nxA_lt {q : Nat} (hq : q < 24) : nxA q < 24 := by unfold nxA; split <;> omega
theorem pvA_lt {q : Nat} (hq : q < 24) : pvA q < 24 := by unfold pvA; split <;> omega
theorem min_note : ∀ n, n < 25 → (if (24 : Int32) < nI (n + 1) then (24 : Int32) else nI (n + 1)) = nI (noteN n) := fun n h => co_dec (P := fun n => (if (24 : Int32) < nI (n + 1) then (24 : Int32) else nI (n + 1)) = nI (noteN n)) (by decide +kernel) h
/-- an act is kept on the page 66 + q: what that leaves as it was -/
def AF (q n : Nat) (m m1 : jM) : Prop := (∀ c, c ≠ 0 → c ≠ 66 + q → m1 c = m c) ∧ m1 0 = upd (upd (m 0) 7 (nI (nxA q))) 6 (nI (noteN n))
theorem barO_ok {v : Nat → Int32} {V : Nat} (hV : V ≤ 3) (h : ∀ s, s < 3 → barO v V s) : ∀ s, s < V → ∃ a, a < 8 ∧ v s = nI a := fun s hs => inN_of (by decide) (h s (by omega)).1
set_option maxHeartbeats 2000000 in
set_option maxRecDepth 20000 in
theorem s_keepAct (m : jM) (st : Nat → Int32) (V P : Nat) (hV : V ≤ 3) (hP : P ≤ 5) (hR : RK m 20 st V P) (n q : Nat) (hn : n ≤ 24) (hq : q < 24) (h6 : m 0 6 = nI n) (h7 : m 0 7 = nI q) : vX mX3_keepAct [.ref 0] m (fun m1 => PG m1 (66 + q) st V P ∧ AF q n m m1) := by
  refine jX_of (L := [some (.ref 0)]) 0 rfl rfl (by decide +kernel) rfl ?_
  refine e_aload_n dX3_keepAct_0 rfl ?_
  refine e_getR (o := 20) (b := 20) dX3_keepAct_1 lkX3_25 rfl rfl (by decide) rfl ?_
  refine e_aload_n dX3_keepAct_4 rfl ?_
  refine e_getR (o := 65) (b := 65) dX3_keepAct_5 lkX3_38 rfl rfl (by decide) rfl ?_
  refine e_aload_n dX3_keepAct_8 rfl ?_
  refine e_getI dX3_keepAct_9 lkX3_45 rfl rfl ?_
  rw [show m 0 7 = nI q from h7]
  refine e_aald (b := 66 + q) dX3_keepAct_12 rfl (by decide) q rfl hq (by decide) rfl ?_
  refine e_callVv (n := 1) mX0_keep [.ref (66 + q)] dX3_keepAct_13 ckX3_264 rfl (by decide +kernel) rfl rfl rfl rfl (Nat.le_of_ble_eq_true rfl) ⟨Nat.zero_le _, Nat.zero_le _⟩ (s_Ckeep 20 k20 m st V P hV hP hR (66 + q) (isA_l q hq) (Or.inr (by omega))) (fun mk hmk => ?_)
  refine e_aload_n dX3_keepAct_16 rfl ?_
  refine e_aload_n dX3_keepAct_17 rfl ?_
  refine e_getI dX3_keepAct_18 lkX3_45 rfl rfl ?_
  rw [show mk 0 7 = nI q from by rw [hmk.2 0 (by omega)]; exact h7]
  refine e_bipush (v := 23) dX3_keepAct_21 rfl ?_
  refine e_icmp_ne 30 dX3_keepAct_23 (by decide) (fun c23 => ?_) (fun c23 => ?_)
  · refine e_aload_n dX3_keepAct_30 rfl ?_
    refine e_getI dX3_keepAct_31 lkX3_45 rfl rfl ?_
    rw [show mk 0 7 = nI q from by rw [hmk.2 0 (by omega)]; exact h7]
    refine e_iconst (v := 1) dX3_keepAct_34 rfl ?_
    refine e_iadd dX3_keepAct_35 ?_
    rw [show (nI q) + 1 = nI (q + 1) from nI_1 q]
    refine e_putI dX3_keepAct_36 lkX3_45 rfl rfl fwX3_7 (Or.inl rfl) (fun ma hma => ?_)
    refine e_aload_n dX3_keepAct_39 rfl ?_
    refine e_aload_n dX3_keepAct_40 rfl ?_
    refine e_getI dX3_keepAct_41 lkX3_41 rfl rfl ?_
    rw [show ma 0 6 = nI n from by rw [hma, jup_s, upd_n _ _ (by decide), hmk.2 0 (by omega)]; exact h6]
    refine e_iconst (v := 1) dX3_keepAct_44 rfl ?_
    refine e_iadd dX3_keepAct_45 ?_
    rw [show (nI n) + 1 = nI (n + 1) from nI_1 n]
    refine e_bipush (v := 24) dX3_keepAct_46 rfl ?_
    refine e_callSi (n := 2) mMath_min [.int (nI (n + 1)), .int 24] dX3_keepAct_48 ckX3_267 rfl (by decide +kernel) rfl rfl (Nat.le_of_ble_eq_true rfl) ⟨Nat.zero_le _, Nat.zero_le _⟩ (s_min ma (nI (n + 1)) 24) (fun v48 m3 hm3 => ?_)
    obtain ⟨rfl, rfl⟩ := hm3
    rw [min_note n (by omega)]
    refine e_putI dX3_keepAct_51 lkX3_41 rfl rfl fwX3_6 (Or.inl rfl) (fun mb hmb => ?_)
    exact e_vret dX3_keepAct_54 rfl (⟨hmk.1.fr (by rw [hmb, jup_n _ _ (by omega), hma, jup_n _ _ (by omega)]), fun c h0 h1 => by rw [hmb, jup_n _ _ h0, hma, jup_n _ _ h0]; exact hmk.2 c h1, by rw [hmb, jup_s, hma, jup_s, hmk.2 0 (by omega)]; first | rw [nx_23 hq (by first | exact c23 | exact Classical.byContradiction c23)] | rw [nx_no c23]⟩)
  · refine e_iconst (v := 0) dX3_keepAct_26 rfl ?_
    refine e_goto 36 dX3_keepAct_27 (by decide) ?_
    refine e_putI dX3_keepAct_36 lkX3_45 rfl rfl fwX3_7 (Or.inl rfl) (fun ma hma => ?_)
    refine e_aload_n dX3_keepAct_39 rfl ?_
    refine e_aload_n dX3_keepAct_40 rfl ?_
    refine e_getI dX3_keepAct_41 lkX3_41 rfl rfl ?_
    rw [show ma 0 6 = nI n from by rw [hma, jup_s, upd_n _ _ (by decide), hmk.2 0 (by omega)]; exact h6]
    refine e_iconst (v := 1) dX3_keepAct_44 rfl ?_
    refine e_iadd dX3_keepAct_45 ?_
    rw [show (nI n) + 1 = nI (n + 1) from nI_1 n]
    refine e_bipush (v := 24) dX3_keepAct_46 rfl ?_
    refine e_callSi (n := 2) mMath_min [.int (nI (n + 1)), .int 24] dX3_keepAct_48 ckX3_267 rfl (by decide +kernel) rfl rfl (Nat.le_of_ble_eq_true rfl) ⟨Nat.zero_le _, Nat.zero_le _⟩ (s_min ma (nI (n + 1)) 24) (fun v48 m6 hm6 => ?_)
    obtain ⟨rfl, rfl⟩ := hm6
    rw [min_note n (by omega)]
    refine e_putI dX3_keepAct_51 lkX3_41 rfl rfl fwX3_6 (Or.inl rfl) (fun mb hmb => ?_)
    exact e_vret dX3_keepAct_54 rfl (⟨hmk.1.fr (by rw [hmb, jup_n _ _ (by omega), hma, jup_n _ _ (by omega)]), fun c h0 h1 => by rw [hmb, jup_n _ _ h0, hma, jup_n _ _ h0]; exact hmk.2 c h1, by rw [hmb, jup_s, hma, jup_s, hmk.2 0 (by omega)]; first | rw [nx_23 hq (by first | exact c23 | exact Classical.byContradiction c23)] | rw [nx_no c23]⟩)

set_option maxHeartbeats 2000000 in
set_option maxRecDepth 20000 in
theorem s_Jwin_b (m : jM) (st : Nat → Int32) (V P : Nat) (hV : V ≤ 3) (hP : P ≤ 5) (hR : RK m 20 st V P) (x y z : Int32) (hb : ¬ (inN x P ∧ inN y V ∧ inN z 2)) : iX mX3_window [.ref 0, .int x, .int y, .int z] m (fun v m1 => v = -1000001 ∧ m = m1) := by
  refine jX_of (L := [some (.ref 0), some (.int x), some (.int y), some (.int z)]) 0 rfl rfl (by decide +kernel) rfl ?_
  refine e_iload_n dX3_window_0 rfl ?_
  refine e_aload_n dX3_window_1 rfl ?_
  refine e_getR (o := 20) (b := 20) dX3_window_2 lkX3_25 rfl rfl (by decide) rfl ?_
  refine e_getI dX3_window_5 lkX3_140 rfl rfl ?_
  rw [show m 20 6 = nI P from hR.ps]
  refine e_callSi (n := 2) mX3_isNot [.int x, .int (nI P)] dX3_window_8 ckX3_80 rfl (by decide +kernel) rfl rfl (Nat.le_of_ble_eq_true rfl) ⟨Nat.zero_le _, Nat.zero_le _⟩ (s_notN m x (nI P) P rfl) (fun v8 m1 hm1 => ?_)
  rcases hm1 with ⟨rfl, ⟨rfl, q⟩ | ⟨rfl, q⟩⟩
  · refine e_if_ne 36 dX3_window_11 (by decide) (fun c11 => ?_) (fun h => absurd h (by decide))
    refine e_ldc dX3_window_36 kkX3_84 ?_
    exact e_iret dX3_window_38 rfl (⟨rfl, rfl⟩)
  · have q := Classical.not_not.mp q
    refine e_if_ne 36 dX3_window_11 (by decide) (fun h => absurd h (by decide)) (fun c11 => ?_)
    refine e_iload_n dX3_window_14 rfl ?_
    refine e_aload_n dX3_window_15 rfl ?_
    refine e_getR (o := 20) (b := 20) dX3_window_16 lkX3_25 rfl rfl (by decide) rfl ?_
    refine e_getI dX3_window_19 lkX3_147 rfl rfl ?_
    rw [show m 20 2 = nI V from hR.vs]
    refine e_callSi (n := 2) mX3_isNot [.int y, .int (nI V)] dX3_window_22 ckX3_80 rfl (by decide +kernel) rfl rfl (Nat.le_of_ble_eq_true rfl) ⟨Nat.zero_le _, Nat.zero_le _⟩ (s_notN m y (nI V) V rfl) (fun v22 m2 hm2 => ?_)
    rcases hm2 with ⟨rfl, ⟨rfl, q1⟩ | ⟨rfl, q1⟩⟩
    · refine e_if_ne 36 dX3_window_25 (by decide) (fun c25 => ?_) (fun h => absurd h (by decide))
      refine e_ldc dX3_window_36 kkX3_84 ?_
      exact e_iret dX3_window_38 rfl (⟨rfl, rfl⟩)
    · have q1 := Classical.not_not.mp q1
      refine e_if_ne 36 dX3_window_25 (by decide) (fun h => absurd h (by decide)) (fun c25 => ?_)
      refine e_iload_n dX3_window_28 rfl ?_
      refine e_iconst (v := 2) dX3_window_29 rfl ?_
      refine e_callSi (n := 2) mX3_isNot [.int z, .int 2] dX3_window_30 ckX3_80 rfl (by decide +kernel) rfl rfl (Nat.le_of_ble_eq_true rfl) ⟨Nat.zero_le _, Nat.zero_le _⟩ (s_notN m z 2 2 rfl) (fun v30 m3 hm3 => ?_)
      rcases hm3 with ⟨rfl, ⟨rfl, q2⟩ | ⟨rfl, q2⟩⟩
      · refine e_if_eq 39 dX3_window_33 (by decide) (fun h => absurd h (by decide)) (fun c33 => ?_)
        refine e_ldc dX3_window_36 kkX3_84 ?_
        exact e_iret dX3_window_38 rfl (⟨rfl, rfl⟩)
      · have q2 := Classical.not_not.mp q2
        exact False.elim (hb ⟨q, q1, q2⟩)

set_option maxHeartbeats 2000000 in
set_option maxRecDepth 20000 in
theorem s_Jwin (m : jM) (st : Nat → Int32) (V P : Nat) (hW : WK st V P) (hR : RK m 20 st V P) (p : Nat) (hp : p < P) (s : Nat) (hs : s < V) (z : Int32) (hz : inN z 2) (n q : Nat) (hn : n ≤ 24) (hq : q < 24) (h6 : m 0 6 = nI n) (h7 : m 0 7 = nI q) : iX mX3_window [.ref 0, .int (nI p), .int (nI s), .int z] m (fun v m1 => (((st (31 + p) >>> (nI s &&& 31)) &&& 1) = z ∧ v = -1000002 ∧ m = m1) ∨ (¬ ((st (31 + p) >>> (nI s &&& 31)) &&& 1) = z ∧ v = 1 ∧ PG m1 (66 + q) st V P ∧ RK m1 20 (upd st (31 + p) (st (31 + p) ^^^ ((1 : Int32) <<< (nI s &&& 31)))) V P ∧ (∀ c, c ≠ 0 → c ≠ 66 + q → c ≠ 28 → m1 c = m c) ∧ m1 0 = upd (upd (m 0) 7 (nI (nxA q))) 6 (nI (noteN n)))) := by
  have hV := hW.v3
  have hP := hW.p5
  refine jX_of (L := [some (.ref 0), some (.int (nI p)), some (.int (nI s)), some (.int z)]) 0 rfl rfl (by decide +kernel) rfl ?_
  refine e_iload_n dX3_window_0 rfl ?_
  refine e_aload_n dX3_window_1 rfl ?_
  refine e_getR (o := 20) (b := 20) dX3_window_2 lkX3_25 rfl rfl (by decide) rfl ?_
  refine e_getI dX3_window_5 lkX3_140 rfl rfl ?_
  rw [show m 20 6 = nI P from hR.ps]
  refine e_callSi (n := 2) mX3_isNot [.int (nI p), .int (nI P)] dX3_window_8 ckX3_80 rfl (by decide +kernel) rfl rfl (Nat.le_of_ble_eq_true rfl) ⟨Nat.zero_le _, Nat.zero_le _⟩ (s_notN m (nI p) (nI P) P rfl) (fun v8 m1 hm1 => ?_)
  rcases hm1 with ⟨rfl, ⟨rfl, q5⟩ | ⟨rfl, q5⟩⟩
  · exact False.elim (q5 (inN_nI (by omega) hp))
  · have q5 := Classical.not_not.mp q5
    refine e_if_ne 36 dX3_window_11 (by decide) (fun h => absurd h (by decide)) (fun c11 => ?_)
    refine e_iload_n dX3_window_14 rfl ?_
    refine e_aload_n dX3_window_15 rfl ?_
    refine e_getR (o := 20) (b := 20) dX3_window_16 lkX3_25 rfl rfl (by decide) rfl ?_
    refine e_getI dX3_window_19 lkX3_147 rfl rfl ?_
    rw [show m 20 2 = nI V from hR.vs]
    refine e_callSi (n := 2) mX3_isNot [.int (nI s), .int (nI V)] dX3_window_22 ckX3_80 rfl (by decide +kernel) rfl rfl (Nat.le_of_ble_eq_true rfl) ⟨Nat.zero_le _, Nat.zero_le _⟩ (s_notN m (nI s) (nI V) V rfl) (fun v22 m2 hm2 => ?_)
    rcases hm2 with ⟨rfl, ⟨rfl, q6⟩ | ⟨rfl, q6⟩⟩
    · exact False.elim (q6 (inN_nI (by omega) hs))
    · have q6 := Classical.not_not.mp q6
      refine e_if_ne 36 dX3_window_25 (by decide) (fun h => absurd h (by decide)) (fun c25 => ?_)
      refine e_iload_n dX3_window_28 rfl ?_
      refine e_iconst (v := 2) dX3_window_29 rfl ?_
      refine e_callSi (n := 2) mX3_isNot [.int z, .int 2] dX3_window_30 ckX3_80 rfl (by decide +kernel) rfl rfl (Nat.le_of_ble_eq_true rfl) ⟨Nat.zero_le _, Nat.zero_le _⟩ (s_notN m z 2 2 rfl) (fun v30 m3 hm3 => ?_)
      rcases hm3 with ⟨rfl, ⟨rfl, q7⟩ | ⟨rfl, q7⟩⟩
      · exact False.elim (q7 hz)
      · have q7 := Classical.not_not.mp q7
        refine e_if_eq 39 dX3_window_33 (by decide) (fun c33 => ?_) (fun h => absurd h (by decide))
        refine e_aload_n dX3_window_39 rfl ?_
        refine e_getR (o := 20) (b := 20) dX3_window_40 lkX3_25 rfl rfl (by decide) rfl ?_
        refine e_getR (o := 8) (b := 28) dX3_window_43 lkX3_164 rfl rfl (by decide) rfl ?_
        refine e_iload_n dX3_window_46 rfl ?_
        refine e_iald dX3_window_47 rfl p rfl (by omega) (by decide) ?_
        rw [show m 28 p = st (31 + p) from hR.hr p hp]
        refine e_iload_n dX3_window_48 rfl ?_
        refine e_ishr dX3_window_49 ?_
        refine e_iconst (v := 1) dX3_window_50 rfl ?_
        refine e_iand dX3_window_51 ?_
        refine e_iload_n dX3_window_52 rfl ?_
        refine e_icmp_ne 59 dX3_window_53 (by decide) (fun c53 => ?_) (fun c53 => ?_)
        · refine e_aload_n dX3_window_59 rfl ?_
          have hRm := hR
          have h6m := h6
          have h7m := h7
          refine e_callVv (n := 0) mX3_keepAct [] dX3_window_60 ckX3_153 rfl (by decide +kernel) rfl rfl rfl rfl (Nat.le_of_ble_eq_true rfl) ⟨Nat.zero_le _, Nat.zero_le _⟩ (s_keepAct m st V P hV hP hRm n q hn hq h6m h7m) (fun mk hmk => ?_)
          refine e_aload_n dX3_window_63 rfl ?_
          refine e_getR (o := 20) (b := 20) dX3_window_64 lkX3_25 rfl rfl (by decide) rfl ?_
          refine e_getR (o := 8) (b := 28) dX3_window_67 lkX3_164 rfl rfl (by decide) rfl ?_
          refine e_iload_n dX3_window_70 rfl ?_
          refine e_dup2 dX3_window_71 rfl rfl ?_
          have hRk : RK mk 20 st V P := hR.fr (fun c a b => hmk.2.1 c (by omega) (by omega))
          refine e_iald dX3_window_72 rfl p rfl (by omega) (by decide) ?_
          rw [show mk 28 p = st (31 + p) from hRk.hr p hp]
          refine e_iconst (v := 1) dX3_window_73 rfl ?_
          refine e_iload_n dX3_window_74 rfl ?_
          refine e_ishl dX3_window_75 ?_
          refine e_ixor dX3_window_76 ?_
          refine e_iast dX3_window_77 rfl p rfl (by omega) (by decide) (fun mf hmf => ?_)
          refine e_iconst (v := 1) dX3_window_78 rfl ?_
          exact e_iret dX3_window_79 rfl (Or.inr ⟨c53, rfl, hmk.1.fr (by rw [hmf, jup_n _ _ (by omega)]), by rw [hmf]; exact hRk.w_hr hV hP hp _, fun c h0 h1 h2 => by rw [hmf, jup_n _ _ h2]; exact hmk.2.1 c h0 h1, by rw [hmf, jup_n _ _ (by omega)]; exact hmk.2.2⟩)
        · refine e_ldc dX3_window_56 kkX3_146 ?_
          exact e_iret dX3_window_58 rfl (Or.inl ⟨by first | exact c53 | exact Classical.byContradiction c53, rfl, rfl⟩)

set_option maxHeartbeats 2000000 in
set_option maxRecDepth 20000 in
theorem s_Jundo0 (m : jM) (h6 : m 0 6 = 0) : iX mX3_undo [.ref 0] m (fun v m1 => v = -1000002 ∧ m = m1) := by
  refine jX_of (L := [some (.ref 0)]) 0 rfl rfl (by decide +kernel) rfl ?_
  refine e_aload_n dX3_undo_0 rfl ?_
  refine e_getI dX3_undo_1 lkX3_41 rfl rfl ?_
  rw [show m 0 6 = 0 from h6]
  refine e_if_gt 10 dX3_undo_4 (by decide) (fun h => absurd h (by decide)) (fun c4 => ?_)
  refine e_ldc dX3_undo_7 kkX3_146 ?_
  exact e_iret dX3_undo_9 rfl (⟨rfl, rfl⟩)

set_option maxHeartbeats 2000000 in
set_option maxRecDepth 20000 in
theorem s_Jundo (m : jM) (st : Nat → Int32) (V P : Nat) (hV : V ≤ 3) (hP : P ≤ 5) (hR : RK m 20 st V P) (st' : Nat → Int32) (hS : SS st st') (n q : Nat) (hn : n < 24) (hq : q < 24) (h6 : m 0 6 = nI (n + 1)) (h7 : m 0 7 = nI q) (hG : PG m (66 + pvA q) st' V P) : iX mX3_undo [.ref 0] m (fun v m1 => v = nI n ∧ RK m1 20 st' V P ∧ (∀ c, c ≠ 0 → (c < 20 ∨ 30 < c) → m1 c = m c) ∧ m1 20 0 = m 20 0 ∧ m1 0 = upd (upd (m 0) 6 (nI n)) 7 (nI (pvA q))) := by
  refine jX_of (L := [some (.ref 0)]) 0 rfl rfl (by decide +kernel) rfl ?_
  refine e_aload_n dX3_undo_0 rfl ?_
  refine e_getI dX3_undo_1 lkX3_41 rfl rfl ?_
  rw [show m 0 6 = nI (n + 1) from h6]
  refine e_if_gt 10 dX3_undo_4 (by decide) (fun c4 => ?_) (fun h => absurd ((j_lt (a := 0) (b := n + 1) (by decide) (by omega)).mpr (by omega)) h)
  refine e_aload_n dX3_undo_10 rfl ?_
  refine e_dup dX3_undo_11 rfl ?_
  refine e_getI dX3_undo_12 lkX3_41 rfl rfl ?_
  rw [show m 0 6 = nI (n + 1) from h6]
  refine e_iconst (v := 1) dX3_undo_15 rfl ?_
  refine e_isub dX3_undo_16 ?_
  rw [show (nI (n + 1)) - 1 = nI n from nI_pred n]
  refine e_putI dX3_undo_17 lkX3_41 rfl rfl fwX3_6 (Or.inl rfl) (fun ma hma => ?_)
  refine e_aload_n dX3_undo_20 rfl ?_
  refine e_aload_n dX3_undo_21 rfl ?_
  refine e_getI dX3_undo_22 lkX3_45 rfl rfl ?_
  rw [show ma 0 7 = nI q from by rw [hma, jup_s, upd_n _ _ (by decide)]; exact h7]
  refine e_if_ne 33 dX3_undo_25 (by decide) (fun c25 => ?_) (fun c25 => ?_)
  · refine e_aload_n dX3_undo_33 rfl ?_
    refine e_getI dX3_undo_34 lkX3_45 rfl rfl ?_
    rw [show ma 0 7 = nI q from by rw [hma, jup_s, upd_n _ _ (by decide)]; exact h7]
    refine e_iconst (v := 1) dX3_undo_37 rfl ?_
    refine e_isub dX3_undo_38 ?_
    rw [show (nI q) - 1 = nI (pvA q) from pv_no hq c25]
    
    refine e_putI dX3_undo_39 lkX3_45 rfl rfl fwX3_7 (Or.inl rfl) (fun mb hmb => ?_)
    refine e_aload_n dX3_undo_42 rfl ?_
    refine e_getR (o := 20) (b := 20) dX3_undo_43 lkX3_25 rfl rfl (by decide) rfl ?_
    refine e_aload_n dX3_undo_46 rfl ?_
    refine e_getR (o := 65) (b := 65) dX3_undo_47 lkX3_38 rfl rfl (by decide) rfl ?_
    refine e_aload_n dX3_undo_50 rfl ?_
    refine e_getI dX3_undo_51 lkX3_45 rfl rfl ?_
    rw [show mb 0 7 = nI (pvA q) from by rw [hmb, jup_s, upd_s]]
    refine e_aald (b := 66 + pvA q) dX3_undo_54 rfl (by decide) (pvA q) rfl (pvA_lt hq) (by decide) rfl ?_
    refine e_callVv (n := 1) mX0_bring [.ref (66 + pvA q)] dX3_undo_55 ckX3_167 rfl (by decide +kernel) rfl rfl rfl rfl (Nat.le_of_ble_eq_true rfl) ⟨Nat.zero_le _, Nat.zero_le _⟩ (s_Cbring 20 k20 mb st V P hV hP (hR.fr (fun c a b => by rw [hmb, jup_n _ _ (by omega), hma, jup_n _ _ (by omega)])) st' hS (66 + pvA q) (isA_l _ (pvA_lt hq)) (Or.inr (by omega)) (hG.fr (by rw [hmb, jup_n _ _ (by omega), hma, jup_n _ _ (by omega)]))) (fun mz hmz => ?_)
    refine e_aload_n dX3_undo_58 rfl ?_
    refine e_getI dX3_undo_59 lkX3_41 rfl rfl ?_
    rw [show mz 0 6 = nI n from by rw [hmz.2.1 0 (by omega), hmb, jup_s, upd_n _ _ (by decide), hma, jup_s, upd_s]]
    exact e_iret dX3_undo_62 rfl (⟨rfl, hmz.1, fun c h0 h1 => by rw [hmz.2.1 c (by omega), hmb, jup_n _ _ h0, hma, jup_n _ _ h0], by rw [hmz.2.2, hmb, jup_n _ _ (by decide), hma, jup_n _ _ (by decide)], by rw [hmz.2.1 0 (by omega), hmb, jup_s, hma, jup_s]⟩)
  · have q0 : nI q = 0 := by first | exact c25 | exact Classical.byContradiction c25
    refine e_bipush (v := 23) dX3_undo_28 rfl ?_
    refine e_goto 39 dX3_undo_30 (by decide) ?_
    rw [pv_0 hq q0]
    refine e_putI dX3_undo_39 lkX3_45 rfl rfl fwX3_7 (Or.inl rfl) (fun mb hmb => ?_)
    refine e_aload_n dX3_undo_42 rfl ?_
    refine e_getR (o := 20) (b := 20) dX3_undo_43 lkX3_25 rfl rfl (by decide) rfl ?_
    refine e_aload_n dX3_undo_46 rfl ?_
    refine e_getR (o := 65) (b := 65) dX3_undo_47 lkX3_38 rfl rfl (by decide) rfl ?_
    refine e_aload_n dX3_undo_50 rfl ?_
    refine e_getI dX3_undo_51 lkX3_45 rfl rfl ?_
    rw [show mb 0 7 = nI (pvA q) from by rw [hmb, jup_s, upd_s]]
    refine e_aald (b := 66 + pvA q) dX3_undo_54 rfl (by decide) (pvA q) rfl (pvA_lt hq) (by decide) rfl ?_
    refine e_callVv (n := 1) mX0_bring [.ref (66 + pvA q)] dX3_undo_55 ckX3_167 rfl (by decide +kernel) rfl rfl rfl rfl (Nat.le_of_ble_eq_true rfl) ⟨Nat.zero_le _, Nat.zero_le _⟩ (s_Cbring 20 k20 mb st V P hV hP (hR.fr (fun c a b => by rw [hmb, jup_n _ _ (by omega), hma, jup_n _ _ (by omega)])) st' hS (66 + pvA q) (isA_l _ (pvA_lt hq)) (Or.inr (by omega)) (hG.fr (by rw [hmb, jup_n _ _ (by omega), hma, jup_n _ _ (by omega)]))) (fun mz hmz => ?_)
    refine e_aload_n dX3_undo_58 rfl ?_
    refine e_getI dX3_undo_59 lkX3_41 rfl rfl ?_
    rw [show mz 0 6 = nI n from by rw [hmz.2.1 0 (by omega), hmb, jup_s, upd_n _ _ (by decide), hma, jup_s, upd_s]]
    exact e_iret dX3_undo_62 rfl (⟨rfl, hmz.1, fun c h0 h1 => by rw [hmz.2.1 c (by omega), hmb, jup_n _ _ h0, hma, jup_n _ _ h0], by rw [hmz.2.2, hmb, jup_n _ _ (by decide), hma, jup_n _ _ (by decide)], by rw [hmz.2.1 0 (by omega), hmb, jup_s, hma, jup_s]⟩)

set_option maxHeartbeats 2000000 in
set_option maxRecDepth 20000 in
theorem s_Jimage_b (m : jM) (x : Int32) (hb : ¬ inN x 2) : iX mX3_image [.ref 0, .int x] m (fun v m1 => v = -1000001 ∧ m = m1) := by
  refine jX_of (L := [some (.ref 0), some (.int x)]) 0 rfl rfl (by decide +kernel) rfl ?_
  refine e_iload_n dX3_image_0 rfl ?_
  refine e_iconst (v := 2) dX3_image_1 rfl ?_
  refine e_callSi (n := 2) mX3_isNot [.int x, .int 2] dX3_image_2 ckX3_80 rfl (by decide +kernel) rfl rfl (Nat.le_of_ble_eq_true rfl) ⟨Nat.zero_le _, Nat.zero_le _⟩ (s_notN m x 2 2 rfl) (fun v2 m1 hm1 => ?_)
  rcases hm1 with ⟨rfl, ⟨rfl, q⟩ | ⟨rfl, q⟩⟩
  · refine e_if_eq 11 dX3_image_5 (by decide) (fun h => absurd h (by decide)) (fun c5 => ?_)
    refine e_ldc dX3_image_8 kkX3_84 ?_
    exact e_iret dX3_image_10 rfl (⟨rfl, rfl⟩)
  · have q := Classical.not_not.mp q
    exact False.elim (hb q)

set_option maxHeartbeats 2000000 in
set_option maxRecDepth 20000 in
theorem s_Jimage_s (m : jM) (x : Int32) (hb : inN x 2) (h0 : m 20 0 = 0) : iX mX3_image [.ref 0, .int x] m (fun v m1 => v = -1000002 ∧ m = m1) := by
  refine jX_of (L := [some (.ref 0), some (.int x)]) 0 rfl rfl (by decide +kernel) rfl ?_
  refine e_iload_n dX3_image_0 rfl ?_
  refine e_iconst (v := 2) dX3_image_1 rfl ?_
  refine e_callSi (n := 2) mX3_isNot [.int x, .int 2] dX3_image_2 ckX3_80 rfl (by decide +kernel) rfl rfl (Nat.le_of_ble_eq_true rfl) ⟨Nat.zero_le _, Nat.zero_le _⟩ (s_notN m x 2 2 rfl) (fun v2 m1 hm1 => ?_)
  rcases hm1 with ⟨rfl, ⟨rfl, q⟩ | ⟨rfl, q⟩⟩
  · exact False.elim (q hb)
  · have q := Classical.not_not.mp q
    refine e_if_eq 11 dX3_image_5 (by decide) (fun c5 => ?_) (fun h => absurd h (by decide))
    refine e_aload_n dX3_image_11 rfl ?_
    refine e_getR (o := 20) (b := 20) dX3_image_12 lkX3_25 rfl rfl (by decide) rfl ?_
    refine e_getI dX3_image_15 lkX3_143 rfl rfl ?_
    rw [show m 20 0 = 0 from h0]
    refine e_if_ne 24 dX3_image_18 (by decide) (fun h => absurd rfl h) (fun c18 => ?_)
    refine e_ldc dX3_image_21 kkX3_146 ?_
    exact e_iret dX3_image_23 rfl (⟨rfl, rfl⟩)

set_option maxHeartbeats 2000000 in
set_option maxRecDepth 20000 in
theorem s_Jimage (m : jM) (st : Nat → Int32) (V P : Nat) (hV : V ≤ 3) (hP : P ≤ 5) (hR : RK m 20 st V P) (k : Nat) (hk : k < 2) (h0 : m 20 0 = 1) : iX mX3_image [.ref 0, .int (nI k)] m (fun v m1 => v = 1 ∧ RK m1 (43 + 11 * k) st V P ∧ m1 (43 + 11 * k) 0 = 1 ∧ ∀ c, c < (43 + 11 * k) ∨ (43 + 11 * k) + 10 < c → m1 c = m c) := by
  refine jX_of (L := [some (.ref 0), some (.int (nI k))]) 0 rfl rfl (by decide +kernel) rfl ?_
  refine e_iload_n dX3_image_0 rfl ?_
  refine e_iconst (v := 2) dX3_image_1 rfl ?_
  refine e_callSi (n := 2) mX3_isNot [.int (nI k), .int 2] dX3_image_2 ckX3_80 rfl (by decide +kernel) rfl rfl (Nat.le_of_ble_eq_true rfl) ⟨Nat.zero_le _, Nat.zero_le _⟩ (s_notN m (nI k) 2 2 rfl) (fun v2 m1 hm1 => ?_)
  rcases hm1 with ⟨rfl, ⟨rfl, q⟩ | ⟨rfl, q⟩⟩
  · exact False.elim (q (inN_nI (by decide) hk))
  · have q := Classical.not_not.mp q
    refine e_if_eq 11 dX3_image_5 (by decide) (fun c5 => ?_) (fun h => absurd h (by decide))
    refine e_aload_n dX3_image_11 rfl ?_
    refine e_getR (o := 20) (b := 20) dX3_image_12 lkX3_25 rfl rfl (by decide) rfl ?_
    refine e_getI dX3_image_15 lkX3_143 rfl rfl ?_
    rw [show m 20 0 = 1 from h0]
    refine e_if_ne 24 dX3_image_18 (by decide) (fun c18 => ?_) (fun h => absurd h (by decide))
    refine e_aload_n dX3_image_24 rfl ?_
    refine e_getR (o := 42) (b := 42) dX3_image_25 lkX3_32 rfl rfl (by decide) rfl ?_
    refine e_iload_n dX3_image_28 rfl ?_
    refine e_aald (b := 43 + 11 * k) dX3_image_29 rfl (by decide) k rfl (by omega) (by decide) rfl ?_
    refine e_aload_n dX3_image_30 rfl ?_
    refine e_getR (o := 20) (b := 20) dX3_image_31 lkX3_25 rfl rfl (by decide) rfl ?_
    refine e_callVv (n := 1) mX0_takeFrom [.ref 20] dX3_image_34 ckX3_137 rfl (by decide +kernel) rfl (isK.l0 (isI_k k (by omega))) rfl rfl (Nat.le_of_ble_eq_true rfl) ⟨Nat.zero_le _, Nat.zero_le _⟩ (s_CtakeFrom (43 + 11 * k) 20 (isI_k k hk) k20 (by omega) m st V P hV hP hR (Or.inr h0)) (fun mz hmz => ?_)
    refine e_iconst (v := 1) dX3_image_37 rfl ?_
    exact e_iret dX3_image_38 rfl (⟨rfl, hmz.1, by rw [hmz.2.1]; exact h0, hmz.2.2⟩)

set_option maxHeartbeats 2000000 in
set_option maxRecDepth 20000 in
theorem s_Jrestore_b (m : jM) (x : Int32) (hb : ¬ inN x 2) : iX mX3_restore [.ref 0, .int x] m (fun v m1 => v = -1000001 ∧ m = m1) := by
  refine jX_of (L := [some (.ref 0), some (.int x)]) 0 rfl rfl (by decide +kernel) rfl ?_
  refine e_iload_n dX3_restore_0 rfl ?_
  refine e_iconst (v := 2) dX3_restore_1 rfl ?_
  refine e_callSi (n := 2) mX3_isNot [.int x, .int 2] dX3_restore_2 ckX3_80 rfl (by decide +kernel) rfl rfl (Nat.le_of_ble_eq_true rfl) ⟨Nat.zero_le _, Nat.zero_le _⟩ (s_notN m x 2 2 rfl) (fun v2 m1 hm1 => ?_)
  rcases hm1 with ⟨rfl, ⟨rfl, q⟩ | ⟨rfl, q⟩⟩
  · refine e_if_eq 11 dX3_restore_5 (by decide) (fun h => absurd h (by decide)) (fun c5 => ?_)
    refine e_ldc dX3_restore_8 kkX3_84 ?_
    exact e_iret dX3_restore_10 rfl (⟨rfl, rfl⟩)
  · have q := Classical.not_not.mp q
    exact False.elim (hb q)

set_option maxHeartbeats 2000000 in
set_option maxRecDepth 20000 in
theorem s_Jrestore_s (m : jM) (k : Nat) (hk : k < 2) (h0 : m (43 + 11 * k) 0 = 0) : iX mX3_restore [.ref 0, .int (nI k)] m (fun v m1 => v = -1000002 ∧ m = m1) := by
  refine jX_of (L := [some (.ref 0), some (.int (nI k))]) 0 rfl rfl (by decide +kernel) rfl ?_
  refine e_iload_n dX3_restore_0 rfl ?_
  refine e_iconst (v := 2) dX3_restore_1 rfl ?_
  refine e_callSi (n := 2) mX3_isNot [.int (nI k), .int 2] dX3_restore_2 ckX3_80 rfl (by decide +kernel) rfl rfl (Nat.le_of_ble_eq_true rfl) ⟨Nat.zero_le _, Nat.zero_le _⟩ (s_notN m (nI k) 2 2 rfl) (fun v2 m1 hm1 => ?_)
  rcases hm1 with ⟨rfl, ⟨rfl, q⟩ | ⟨rfl, q⟩⟩
  · exact False.elim (q (inN_nI (by decide) hk))
  · have q := Classical.not_not.mp q
    refine e_if_eq 11 dX3_restore_5 (by decide) (fun c5 => ?_) (fun h => absurd h (by decide))
    refine e_aload_n dX3_restore_11 rfl ?_
    refine e_getR (o := 42) (b := 42) dX3_restore_12 lkX3_32 rfl rfl (by decide) rfl ?_
    refine e_iload_n dX3_restore_15 rfl ?_
    refine e_aald (b := 43 + 11 * k) dX3_restore_16 rfl (by decide) k rfl (by omega) (by decide) rfl ?_
    refine e_getI dX3_restore_17 lkX3_143 (isK.l0 (isI_k k (by omega))) rfl ?_
    rw [show m (43 + 11 * k) 0 = 0 from h0]
    refine e_if_ne 26 dX3_restore_20 (by decide) (fun h => absurd rfl h) (fun c20 => ?_)
    refine e_ldc dX3_restore_23 kkX3_146 ?_
    exact e_iret dX3_restore_25 rfl (⟨rfl, rfl⟩)

set_option maxHeartbeats 2000000 in
set_option maxRecDepth 20000 in
theorem s_Jrestore (m : jM) (st : Nat → Int32) (V P : Nat) (hV : V ≤ 3) (hP : P ≤ 5) (k : Nat) (hk : k < 2) (hR : RK m (43 + 11 * k) st V P) (h0 : m (43 + 11 * k) 0 = 1) : iX mX3_restore [.ref 0, .int (nI k)] m (fun v m1 => v = 1 ∧ RK m1 20 st V P ∧ m1 20 0 = 1 ∧ (∀ c, c ≠ 0 → c < 20 ∨ 30 < c → m1 c = m c) ∧ m1 0 = upd (m 0) 6 0) := by
  refine jX_of (L := [some (.ref 0), some (.int (nI k))]) 0 rfl rfl (by decide +kernel) rfl ?_
  refine e_iload_n dX3_restore_0 rfl ?_
  refine e_iconst (v := 2) dX3_restore_1 rfl ?_
  refine e_callSi (n := 2) mX3_isNot [.int (nI k), .int 2] dX3_restore_2 ckX3_80 rfl (by decide +kernel) rfl rfl (Nat.le_of_ble_eq_true rfl) ⟨Nat.zero_le _, Nat.zero_le _⟩ (s_notN m (nI k) 2 2 rfl) (fun v2 m1 hm1 => ?_)
  rcases hm1 with ⟨rfl, ⟨rfl, q⟩ | ⟨rfl, q⟩⟩
  · exact False.elim (q (inN_nI (by decide) hk))
  · have q := Classical.not_not.mp q
    refine e_if_eq 11 dX3_restore_5 (by decide) (fun c5 => ?_) (fun h => absurd h (by decide))
    refine e_aload_n dX3_restore_11 rfl ?_
    refine e_getR (o := 42) (b := 42) dX3_restore_12 lkX3_32 rfl rfl (by decide) rfl ?_
    refine e_iload_n dX3_restore_15 rfl ?_
    refine e_aald (b := 43 + 11 * k) dX3_restore_16 rfl (by decide) k rfl (by omega) (by decide) rfl ?_
    refine e_getI dX3_restore_17 lkX3_143 (isK.l0 (isI_k k (by omega))) rfl ?_
    rw [show m (43 + 11 * k) 0 = 1 from h0]
    refine e_if_ne 26 dX3_restore_20 (by decide) (fun c20 => ?_) (fun h => absurd h (by decide))
    refine e_aload_n dX3_restore_26 rfl ?_
    refine e_getR (o := 20) (b := 20) dX3_restore_27 lkX3_25 rfl rfl (by decide) rfl ?_
    refine e_aload_n dX3_restore_30 rfl ?_
    refine e_getR (o := 42) (b := 42) dX3_restore_31 lkX3_32 rfl rfl (by decide) rfl ?_
    refine e_iload_n dX3_restore_34 rfl ?_
    refine e_aald (b := 43 + 11 * k) dX3_restore_35 rfl (by decide) k rfl (by omega) (by decide) rfl ?_
    refine e_callVv (n := 1) mX0_takeFrom [.ref (43 + 11 * k)] dX3_restore_36 ckX3_137 rfl (by decide +kernel) rfl rfl rfl rfl (Nat.le_of_ble_eq_true rfl) ⟨Nat.zero_le _, Nat.zero_le _⟩ (s_CtakeFrom 20 (43 + 11 * k) k20 (isI_k k hk) (by omega) m st V P hV hP hR (Or.inr h0)) (fun mz hmz => ?_)
    refine e_aload_n dX3_restore_39 rfl ?_
    refine e_iconst (v := 0) dX3_restore_40 rfl ?_
    refine e_putI dX3_restore_41 lkX3_41 rfl rfl fwX3_6 (Or.inl rfl) (fun mw hmw => ?_)
    refine e_iconst (v := 1) dX3_restore_44 rfl ?_
    exact e_iret dX3_restore_45 rfl (⟨rfl, hmz.1.fr (fun c a b => by rw [hmw, jup_n _ _ (by omega)]), by rw [hmw, jup_n _ _ (by decide), hmz.2.1]; exact h0, fun c h0 h1 => by rw [hmw, jup_n _ _ h0]; exact hmz.2.2 c h1, by rw [hmw, jup_s, hmz.2.2 0 (by omega)]⟩)

set_option maxHeartbeats 2000000 in
set_option maxRecDepth 20000 in
theorem s_Jbar_s (m : jM) (a b c : Int32) (h0 : m 20 0 = 0) : iX mX3_bar [.ref 0, .int a, .int b, .int c] m (fun v m1 => v = -1000002 ∧ m = m1) := by
  refine jX_of (L := [some (.ref 0), some (.int a), some (.int b), some (.int c), none]) 1 rfl rfl (by decide +kernel) rfl ?_
  refine e_aload_n dX3_bar_0 rfl ?_
  refine e_getR (o := 20) (b := 20) dX3_bar_1 lkX3_25 rfl rfl (by decide) rfl ?_
  refine e_getI dX3_bar_4 lkX3_143 rfl rfl ?_
  rw [show m 20 0 = 0 from h0]
  refine e_if_ne 13 dX3_bar_7 (by decide) (fun h => absurd rfl h) (fun c7 => ?_)
  refine e_ldc dX3_bar_10 kkX3_146 ?_
  exact e_iret dX3_bar_12 rfl (⟨rfl, rfl⟩)

set_option maxHeartbeats 2000000 in
set_option maxRecDepth 20000 in
theorem s_Jbar (m : jM) (st : Nat → Int32) (V P : Nat) (hW : WK st V P) (hR : RK m 20 st V P) (h0 : m 20 0 = 1) (n q : Nat) (hn : n ≤ 24) (hq : q < 24) (h6 : m 0 6 = nI n) (h7 : m 0 7 = nI q) (a b c : Int32) : iX mX3_bar [.ref 0, .int a, .int b, .int c] m (fun v m1 => (¬ (∀ s, s < 3 → barO (nt3 a b c) V s) ∧ v = -1000001 ∧ jup m 90 (upd (upd (upd (m 90) 0 a) 1 b) 2 c) = m1) ∨ ((∀ s, s < 3 → barO (nt3 a b c) V s) ∧ canA st (nt3 a b c) V 3 = false ∧ v = -1000002 ∧ jup m 90 (upd (upd (upd (m 90) 0 a) 1 b) 2 c) = m1) ∨ ((∀ s, s < 3 → barO (nt3 a b c) V s) ∧ canA st (nt3 a b c) V 3 = true ∧ v = setB (oneB st (nt3 a b c) V P) P ∧ PG m1 (66 + q) st V P ∧ RK m1 20 (oneB st (nt3 a b c) V P) V P ∧ (∀ c, c ≠ 0 → c ≠ 66 + q → c ≠ 90 → (c < 20 ∨ 30 < c) → m1 c = m c) ∧ m1 20 0 = m 20 0 ∧ m1 0 = upd (upd (m 0) 7 (nI (nxA q))) 6 (nI (noteN n)))) := by
  have hV := hW.v3
  have hP := hW.p5
  refine jX_of (L := [some (.ref 0), some (.int a), some (.int b), some (.int c), none]) 1 rfl rfl (by decide +kernel) rfl ?_
  refine e_aload_n dX3_bar_0 rfl ?_
  refine e_getR (o := 20) (b := 20) dX3_bar_1 lkX3_25 rfl rfl (by decide) rfl ?_
  refine e_getI dX3_bar_4 lkX3_143 rfl rfl ?_
  rw [show m 20 0 = 1 from h0]
  refine e_if_ne 13 dX3_bar_7 (by decide) (fun c7 => ?_) (fun h => absurd h (by decide))
  refine e_aload_n dX3_bar_13 rfl ?_
  refine e_getR (o := 90) (b := 90) dX3_bar_14 lkX3_48 rfl rfl (by decide) rfl ?_
  refine e_iconst (v := 0) dX3_bar_17 rfl ?_
  refine e_iload_n dX3_bar_18 rfl ?_
  refine e_iast dX3_bar_19 rfl 0 rfl (by decide) (by decide) (fun na hna => ?_)
  refine e_aload_n dX3_bar_20 rfl ?_
  refine e_getR (o := 90) (b := 90) dX3_bar_21 lkX3_48 rfl rfl (by decide) rfl ?_
  refine e_iconst (v := 1) dX3_bar_24 rfl ?_
  refine e_iload_n dX3_bar_25 rfl ?_
  refine e_iast dX3_bar_26 rfl 1 rfl (by decide) (by decide) (fun nb hnb => ?_)
  refine e_aload_n dX3_bar_27 rfl ?_
  refine e_getR (o := 90) (b := 90) dX3_bar_28 lkX3_48 rfl rfl (by decide) rfl ?_
  refine e_iconst (v := 2) dX3_bar_31 rfl ?_
  refine e_iload_n dX3_bar_32 rfl ?_
  refine e_iast dX3_bar_33 rfl 2 rfl (by decide) (by decide) (fun nc hnc => ?_)
  refine e_iconst (v := 0) dX3_bar_34 rfl ?_
  refine e_istore (L' := [some (.ref 0), some (.int a), some (.int b), some (.int c), some (.int 0)]) dX3_bar_35 (Nat.le_of_ble_eq_true rfl) (Nat.le_of_ble_eq_true rfl) (jnl_at (i := 3) rfl) rfl ?_
  have hnc3 : nc = jup m 90 (upd (upd (upd (m 90) 0 a) 1 b) 2 c) := by rw [hnc, hnb, hna, jup_s, jup_jup, jup_s, jup_jup]
  refine e_loopS (σ := Unit) 37 3 (fun k _ => [some (.ref 0), some (.int a), some (.int b), some (.int c), some (.int (nI k))]) (fun k _ mm => mm = jup m 90 (upd (upd (upd (m 90) 0 a) 1 b) 2 c) ∧ ∀ s, s < k → barO (nt3 a b c) V s) 0 () (by decide) rfl (⟨hnc3, fun s hs => absurd hs (Nat.not_lt_zero s)⟩) ?_ ?_
  · intro _ mm hI
    show jE _ _ 37 [some (.ref 0), some (.int a), some (.int b), some (.int c), some (.int (nI 3))] [] mm
    obtain ⟨hI1, hAO⟩ := hI
    
    refine e_iload dX3_bar_37 rfl ?_
    refine e_iconst (v := 3) dX3_bar_39 rfl ?_
    refine e_icmp_ge 91 dX3_bar_40 (by decide) (fun c40 => ?_) (fun h => absurd (j_done rfl rfl) h)
    refine e_iconst (v := 0) dX3_bar_91 rfl ?_
    refine e_istore (L' := [some (.ref 0), some (.int a), some (.int b), some (.int c), some (.int 0)]) dX3_bar_92 (Nat.le_of_ble_eq_true rfl) (Nat.le_of_ble_eq_true rfl) (jnl_at (i := 3) rfl) rfl ?_
    refine e_loopS (σ := Unit) 94 V (fun k _ => [some (.ref 0), some (.int a), some (.int b), some (.int c), some (.int (nI k))]) (fun k _ mo => mo = jup m 90 (upd (upd (upd (m 90) 0 a) 1 b) 2 c) ∧ canA st (nt3 a b c) V k = true) 0 () (Nat.zero_le _) rfl (⟨hI1, rfl⟩) ?_ ?_
    · intro _ mo hI
      show jE _ _ 94 [some (.ref 0), some (.int a), some (.int b), some (.int c), some (.int (nI V))] [] mo
      obtain ⟨hI1, hI2⟩ := hI
      have hRm : RK mo 20 st V P := hR.fr (fun c a b => by rw [hI1, jup_n _ _ (by omega)])
      have h6m : mo 0 6 = nI n := by rw [hI1, jup_n _ _ (by decide)]; exact h6
      have h7m : mo 0 7 = nI q := by rw [hI1, jup_n _ _ (by decide)]; exact h7
      refine e_iload dX3_bar_94 rfl ?_
      refine e_aload_n dX3_bar_96 rfl ?_
      refine e_getR (o := 20) (b := 20) dX3_bar_97 lkX3_25 rfl rfl (by decide) rfl ?_
      refine e_getI dX3_bar_100 lkX3_147 rfl rfl ?_
      rw [show mo 20 2 = nI V from by first | exact hRo.vs | exact hRm.vs]
      refine e_icmp_ge 134 dX3_bar_103 (by decide) (fun c103 => ?_) (fun h => absurd (j_done rfl rfl) h)
      refine e_aload_n dX3_bar_134 rfl ?_
      refine e_callVv (n := 0) mX3_keepAct [] dX3_bar_135 ckX3_153 rfl (by decide +kernel) rfl rfl rfl rfl (Nat.le_of_ble_eq_true rfl) ⟨Nat.zero_le _, Nat.zero_le _⟩ (s_keepAct mo st V P hV hP hRm n q hn hq h6m h7m) (fun mk hmk => ?_)
      refine e_aload_n dX3_bar_138 rfl ?_
      refine e_getR (o := 20) (b := 20) dX3_bar_139 lkX3_25 rfl rfl (by decide) rfl ?_
      refine e_aload_n dX3_bar_142 rfl ?_
      refine e_getR (o := 90) (b := 90) dX3_bar_143 lkX3_48 rfl rfl (by decide) rfl ?_
      have k90 : mk 90 = (upd (upd (upd (m 90) 0 a) 1 b) 2 c) := by rw [hmk.2.1 90 (by decide) (by omega), hI1, jup_s]
      have hRk : RK mk 20 st V P := hRm.fr (fun c a b => hmk.2.1 c (by omega) (by omega))
      have eO : oneB st (mk 90) V P = oneB st (nt3 a b c) V P := by
        rw [k90]
        exact oneB_congr (fun j hj => u3_at _ _ _ _ j (by omega))
      refine e_callVv (n := 1) mX0_singBar [.ref 90] dX3_bar_146 ckX3_156 rfl (by decide +kernel) rfl rfl rfl rfl (Nat.le_of_ble_eq_true rfl) ⟨Nat.zero_le _, Nat.zero_le _⟩ (s_CsingBar 20 k20 mk st V P hW hRk (fun s hs => by rw [k90, u3_at _ _ _ _ s (by omega)]; exact barO_ok hV hAO s hs)) (fun mz hmz => ?_)
      have hz := hmz
      rw [eO] at hz
      refine e_aload_n dX3_bar_149 rfl ?_
      refine e_getR (o := 20) (b := 20) dX3_bar_150 lkX3_25 rfl rfl (by decide) rfl ?_
      refine e_callVi (n := 0) mX0_setPans [] dX3_bar_153 ckX3_160 rfl (by decide +kernel) rfl rfl rfl rfl (Nat.le_of_ble_eq_true rfl) ⟨Nat.zero_le _, Nat.zero_le _⟩ (s_CsetPans 20 k20 mz (oneB st (nt3 a b c) V P) V P (hW.one (barO_ok hV hAO)) hz.1) (fun v153 m6 hm6 => ?_)
      obtain ⟨rfl, rfl⟩ := hm6
      exact e_iret dX3_bar_156 rfl (Or.inr (Or.inr ⟨hAO, canA_3t hV hI2, rfl, hmk.1.fr (hz.2.1 _ (by omega)), hz.1, fun c h0 h1 h2 h3 => by rw [hz.2.1 c h3, hmk.2.1 c h0 h1, hI1, jup_n _ _ h2], by rw [hz.2.2, hmk.2.1 20 (by decide) (by omega), hI1, jup_n _ _ (by decide)]; exact h0, by rw [hz.2.1 0 (by omega), hmk.2.2, hI1, jup_n _ _ (by decide)]⟩))
    · intro k hk _ mo hI ih
      show jE _ _ 94 [some (.ref 0), some (.int a), some (.int b), some (.int c), some (.int (nI k))] [] mo
      obtain ⟨hI1, hI2⟩ := hI
      have hkV : k < V := hk
      have hRo : RK mo 20 st V P := hR.fr (fun c a b => by rw [hI1, jup_n _ _ (by omega)])
      refine e_iload dX3_bar_94 rfl ?_
      refine e_aload_n dX3_bar_96 rfl ?_
      refine e_getR (o := 20) (b := 20) dX3_bar_97 lkX3_25 rfl rfl (by decide) rfl ?_
      refine e_getI dX3_bar_100 lkX3_147 rfl rfl ?_
      rw [show mo 20 2 = nI V from by first | exact hRo.vs | exact hRm.vs]
      refine e_icmp_ge 134 dX3_bar_103 (by decide) (fun h => absurd h (j_more (N := V) rfl rfl (by omega) (by omega))) (fun c103 => ?_)
      refine e_aload_n dX3_bar_106 rfl ?_
      refine e_getR (o := 20) (b := 20) dX3_bar_107 lkX3_25 rfl rfl (by decide) rfl ?_
      refine e_iload dX3_bar_110 rfl ?_
      refine e_aload_n dX3_bar_112 rfl ?_
      refine e_getR (o := 90) (b := 90) dX3_bar_113 lkX3_48 rfl rfl (by decide) rfl ?_
      refine e_iload dX3_bar_116 rfl ?_
      refine e_iald dX3_bar_118 rfl k rfl (by omega) (by decide) ?_
      rw [show mo 90 k = nt3 a b c k from by rw [hI1, jup_s]; exact u3_at _ _ _ _ k (by omega)]
      refine e_callVi (n := 2) mX0_can [.int (nI k), .int (nt3 a b c k)] dX3_bar_119 ckX3_150 rfl (by decide +kernel) rfl rfl rfl rfl (Nat.le_of_ble_eq_true rfl) ⟨Nat.zero_le _, Nat.zero_le _⟩ (s_Ccan 20 k20 mo st V P hV hRo k hkV (nt3 a b c k)) (fun v119 m7 hm7 => ?_)
      rcases hm7 with ⟨rfl, ⟨rfl, q2⟩ | ⟨rfl, q2⟩⟩
      · refine e_if_ne 128 dX3_bar_122 (by decide) (fun c122 => ?_) (fun h => absurd h (by decide))
        refine e_iinc (v := nI (k + 1)) (L' := [some (.ref 0), some (.int a), some (.int b), some (.int c), some (.int (nI (k + 1)))]) dX3_bar_128 rfl (j_inc rfl) (by decide) (jnl_at (i := 3) rfl) rfl ?_
        refine e_goto 94 dX3_bar_131 (by decide) ?_
        exact ih () mo ⟨hI1, by rw [canA_t (Or.inr q2)]; exact hI2⟩
      · refine e_if_ne 128 dX3_bar_122 (by decide) (fun h => absurd h (by decide)) (fun c122 => ?_)
        refine e_ldc dX3_bar_125 kkX3_146 ?_
        exact e_iret dX3_bar_127 rfl (Or.inr (Or.inl ⟨hAO, canA_3f hkV hV q2, rfl, hI1.symm⟩))
  · intro k hk _ mm hI ih
    show jE _ _ 37 [some (.ref 0), some (.int a), some (.int b), some (.int c), some (.int (nI k))] [] mm
    obtain ⟨hI1, hI2⟩ := hI
    have g20 : mm 20 = m 20 := by rw [hI1, jup_n _ _ (by decide)]
    have g90 : mm 90 k = nt3 a b c k := by rw [hI1, jup_s]; exact u3_at _ _ _ _ k hk
    
    refine e_iload dX3_bar_37 rfl ?_
    refine e_iconst (v := 3) dX3_bar_39 rfl ?_
    refine e_icmp_ge 91 dX3_bar_40 (by decide) (fun h => absurd h (j_more (N := 3) rfl rfl (by omega) (by omega))) (fun c40 => ?_)
    refine e_aload_n dX3_bar_43 rfl ?_
    refine e_getR (o := 90) (b := 90) dX3_bar_44 lkX3_48 rfl rfl (by decide) rfl ?_
    refine e_iload dX3_bar_47 rfl ?_
    refine e_iald dX3_bar_49 rfl k rfl (by omega) (by decide) ?_
    rw [show mm 90 k = nt3 a b c k from g90]
    refine e_bipush (v := 8) dX3_bar_50 rfl ?_
    refine e_callSi (n := 2) mX3_isNot [.int (nt3 a b c k), .int 8] dX3_bar_52 ckX3_80 rfl (by decide +kernel) rfl rfl (Nat.le_of_ble_eq_true rfl) ⟨Nat.zero_le _, Nat.zero_le _⟩ (s_notN mm (nt3 a b c k) 8 8 rfl) (fun v52 m8 hm8 => ?_)
    rcases hm8 with ⟨rfl, ⟨rfl, q1⟩ | ⟨rfl, q1⟩⟩
    · refine e_if_ne 82 dX3_bar_55 (by decide) (fun c55 => ?_) (fun h => absurd h (by decide))
      refine e_ldc dX3_bar_82 kkX3_84 ?_
      exact e_iret dX3_bar_84 rfl (Or.inl ⟨fun z => by first | exact q1 (z k hk).1 | exact (z k hk).2.elim (fun w => c67 ((j_lt (by omega) (by omega)).mpr w)) (fun w => c79 (inN_7 q1 w)), rfl, hI1.symm⟩)
    · have q1 := Classical.not_not.mp q1
      refine e_if_ne 82 dX3_bar_55 (by decide) (fun h => absurd h (by decide)) (fun c55 => ?_)
      refine e_iload dX3_bar_58 rfl ?_
      refine e_aload_n dX3_bar_60 rfl ?_
      refine e_getR (o := 20) (b := 20) dX3_bar_61 lkX3_25 rfl rfl (by decide) rfl ?_
      refine e_getI dX3_bar_64 lkX3_147 rfl rfl ?_
      rw [show mm 20 2 = nI V from by rw [g20]; exact hR.vs]
      refine e_icmp_lt 85 dX3_bar_67 (by decide) (fun c67 => ?_) (fun c67 => ?_)
      · have hor : k < V ∨ 7 ≤ nt3 a b c k := Or.inl ((j_lt (by omega) (by omega)).mp c67)
        refine e_iinc (v := nI (k + 1)) (L' := [some (.ref 0), some (.int a), some (.int b), some (.int c), some (.int (nI (k + 1)))]) dX3_bar_85 rfl (j_inc rfl) (by decide) (jnl_at (i := 3) rfl) rfl ?_
        refine e_goto 37 dX3_bar_88 (by decide) ?_
        
        refine ih () mm ⟨hI1, fun s hs => ?_⟩
        by_cases hsk : s = k
        · rw [hsk]; exact ⟨q1, hor⟩
        · exact hI2 s (by omega)
      · refine e_aload_n dX3_bar_70 rfl ?_
        refine e_getR (o := 90) (b := 90) dX3_bar_71 lkX3_48 rfl rfl (by decide) rfl ?_
        refine e_iload dX3_bar_74 rfl ?_
        refine e_iald dX3_bar_76 rfl k rfl (by omega) (by decide) ?_
        rw [show mm 90 k = nt3 a b c k from g90]
        refine e_bipush (v := 7) dX3_bar_77 rfl ?_
        refine e_icmp_eq 85 dX3_bar_79 (by decide) (fun c79 => ?_) (fun c79 => ?_)
        · have hor : k < V ∨ 7 ≤ nt3 a b c k := Or.inr (by rw [show nt3 a b c k = 7 from c79]; exact Int32.le_refl _)
          refine e_iinc (v := nI (k + 1)) (L' := [some (.ref 0), some (.int a), some (.int b), some (.int c), some (.int (nI (k + 1)))]) dX3_bar_85 rfl (j_inc rfl) (by decide) (jnl_at (i := 3) rfl) rfl ?_
          refine e_goto 37 dX3_bar_88 (by decide) ?_
          
          refine ih () mm ⟨hI1, fun s hs => ?_⟩
          by_cases hsk : s = k
          · rw [hsk]; exact ⟨q1, hor⟩
          · exact hI2 s (by omega)
        · refine e_ldc dX3_bar_82 kkX3_84 ?_
          exact e_iret dX3_bar_84 rfl (Or.inl ⟨fun z => by first | exact q1 (z k hk).1 | exact (z k hk).2.elim (fun w => c67 ((j_lt (by omega) (by omega)).mpr w)) (fun w => c79 (inN_7 q1 w)), rfl, hI1.symm⟩)
