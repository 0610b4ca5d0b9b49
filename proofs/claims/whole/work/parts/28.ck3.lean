/-! ===== the class's kitchens: a bar ===== -/
theorem RK.w_tk {m : jM} {kc : Nat} {st : Nat → Int32} {V P : Nat} (h : RK m kc st V P) (hV : V ≤ 3) (hP : P ≤ 5) {q : Nat} (hq : q < P) (x : Int32) : RK (jup m (kc + 9) (upd (m (kc + 9)) q x)) kc (upd st (36 + q) x) V P := by
  refine ⟨?_, ?_, ?_, ?_, ?_, ?_, ?_, ?_, ?_, ?_, ?_, ?_, ?_, ?_⟩
  · rw [jup_n _ _ (by omega), upd_n _ _ (by omega)]
    exact h.bk
  · rw [jup_n _ _ (by omega)]
    exact h.vs
  · rw [jup_n _ _ (by omega)]
    exact h.ps
  · rw [jup_n _ _ (by omega), upd_n _ _ (by omega)]
    exact h.br
  · intro i hi
    rw [jup_n _ _ (by omega), upd_n _ _ (by omega)]
    exact h.lo i hi
  · intro i hi
    rw [jup_n _ _ (by omega), upd_n _ _ (by omega)]
    exact h.hi i hi
  · intro i hi
    rw [jup_n _ _ (by omega), upd_n _ _ (by omega)]
    exact h.bt i hi
  · intro i hi
    rw [jup_n _ _ (by omega), upd_n _ _ (by omega)]
    exact h.sg i hi
  · intro i hi
    rw [jup_n _ _ (by omega), upd_n _ _ (by omega)]
    exact h.kd i hi
  · intro i hi
    rw [jup_n _ _ (by omega), upd_n _ _ (by omega)]
    exact h.md i hi
  · intro i hi
    rw [jup_n _ _ (by omega), upd_n _ _ (by omega)]
    exact h.nd i hi
  · intro i hi
    rw [jup_n _ _ (by omega), upd_n _ _ (by omega)]
    exact h.hr i hi
  · intro i hi
    rw [jup_s]
    by_cases e : i = q
    · subst e
      rw [upd_s, upd_s]
    · rw [upd_n _ _ e, upd_n _ _ (by omega)]
      exact h.tk i hi
  · intro i hi
    rw [jup_n _ _ (by omega), upd_n _ _ (by omega)]
    exact h.hd i hi
theorem RK.w_hd {m : jM} {kc : Nat} {st : Nat → Int32} {V P : Nat} (h : RK m kc st V P) (hV : V ≤ 3) (hP : P ≤ 5) {q : Nat} (hq : q < P) (x : Int32) : RK (jup m (kc + 10) (upd (m (kc + 10)) q x)) kc (upd st (46 + q) x) V P := by
  refine ⟨?_, ?_, ?_, ?_, ?_, ?_, ?_, ?_, ?_, ?_, ?_, ?_, ?_, ?_⟩
  · rw [jup_n _ _ (by omega), upd_n _ _ (by omega)]
    exact h.bk
  · rw [jup_n _ _ (by omega)]
    exact h.vs
  · rw [jup_n _ _ (by omega)]
    exact h.ps
  · rw [jup_n _ _ (by omega), upd_n _ _ (by omega)]
    exact h.br
  · intro i hi
    rw [jup_n _ _ (by omega), upd_n _ _ (by omega)]
    exact h.lo i hi
  · intro i hi
    rw [jup_n _ _ (by omega), upd_n _ _ (by omega)]
    exact h.hi i hi
  · intro i hi
    rw [jup_n _ _ (by omega), upd_n _ _ (by omega)]
    exact h.bt i hi
  · intro i hi
    rw [jup_n _ _ (by omega), upd_n _ _ (by omega)]
    exact h.sg i hi
  · intro i hi
    rw [jup_n _ _ (by omega), upd_n _ _ (by omega)]
    exact h.kd i hi
  · intro i hi
    rw [jup_n _ _ (by omega), upd_n _ _ (by omega)]
    exact h.md i hi
  · intro i hi
    rw [jup_n _ _ (by omega), upd_n _ _ (by omega)]
    exact h.nd i hi
  · intro i hi
    rw [jup_n _ _ (by omega), upd_n _ _ (by omega)]
    exact h.hr i hi
  · intro i hi
    rw [jup_n _ _ (by omega), upd_n _ _ (by omega)]
    exact h.tk i hi
  · intro i hi
    rw [jup_s]
    by_cases e : i = q
    · subst e
      rw [upd_s, upd_s]
    · rw [upd_n _ _ e, upd_n _ _ (by omega)]
      exact h.hd i hi
theorem RK.w_sg {m : jM} {kc : Nat} {st : Nat → Int32} {V P : Nat} (h : RK m kc st V P) (hV : V ≤ 3) (hP : P ≤ 5) {q : Nat} (hq : q < V) (x : Int32) : RK (jup m (kc + 7) (upd (m (kc + 7)) q x)) kc (upd st (13 + q) x) V P := by
  refine ⟨?_, ?_, ?_, ?_, ?_, ?_, ?_, ?_, ?_, ?_, ?_, ?_, ?_, ?_⟩
  · rw [jup_n _ _ (by omega), upd_n _ _ (by omega)]
    exact h.bk
  · rw [jup_n _ _ (by omega)]
    exact h.vs
  · rw [jup_n _ _ (by omega)]
    exact h.ps
  · rw [jup_n _ _ (by omega), upd_n _ _ (by omega)]
    exact h.br
  · intro i hi
    rw [jup_n _ _ (by omega), upd_n _ _ (by omega)]
    exact h.lo i hi
  · intro i hi
    rw [jup_n _ _ (by omega), upd_n _ _ (by omega)]
    exact h.hi i hi
  · intro i hi
    rw [jup_n _ _ (by omega), upd_n _ _ (by omega)]
    exact h.bt i hi
  · intro i hi
    rw [jup_s]
    by_cases e : i = q
    · subst e
      rw [upd_s, upd_s]
    · rw [upd_n _ _ e, upd_n _ _ (by omega)]
      exact h.sg i hi
  · intro i hi
    rw [jup_n _ _ (by omega), upd_n _ _ (by omega)]
    exact h.kd i hi
  · intro i hi
    rw [jup_n _ _ (by omega), upd_n _ _ (by omega)]
    exact h.md i hi
  · intro i hi
    rw [jup_n _ _ (by omega), upd_n _ _ (by omega)]
    exact h.nd i hi
  · intro i hi
    rw [jup_n _ _ (by omega), upd_n _ _ (by omega)]
    exact h.hr i hi
  · intro i hi
    rw [jup_n _ _ (by omega), upd_n _ _ (by omega)]
    exact h.tk i hi
  · intro i hi
    rw [jup_n _ _ (by omega), upd_n _ _ (by omega)]
    exact h.hd i hi
theorem RK.w_hr {m : jM} {kc : Nat} {st : Nat → Int32} {V P : Nat} (h : RK m kc st V P) (hV : V ≤ 3) (hP : P ≤ 5) {q : Nat} (hq : q < P) (x : Int32) : RK (jup m (kc + 8) (upd (m (kc + 8)) q x)) kc (upd st (31 + q) x) V P := by
  refine ⟨?_, ?_, ?_, ?_, ?_, ?_, ?_, ?_, ?_, ?_, ?_, ?_, ?_, ?_⟩
  · rw [jup_n _ _ (by omega), upd_n _ _ (by omega)]
    exact h.bk
  · rw [jup_n _ _ (by omega)]
    exact h.vs
  · rw [jup_n _ _ (by omega)]
    exact h.ps
  · rw [jup_n _ _ (by omega), upd_n _ _ (by omega)]
    exact h.br
  · intro i hi
    rw [jup_n _ _ (by omega), upd_n _ _ (by omega)]
    exact h.lo i hi
  · intro i hi
    rw [jup_n _ _ (by omega), upd_n _ _ (by omega)]
    exact h.hi i hi
  · intro i hi
    rw [jup_n _ _ (by omega), upd_n _ _ (by omega)]
    exact h.bt i hi
  · intro i hi
    rw [jup_n _ _ (by omega), upd_n _ _ (by omega)]
    exact h.sg i hi
  · intro i hi
    rw [jup_n _ _ (by omega), upd_n _ _ (by omega)]
    exact h.kd i hi
  · intro i hi
    rw [jup_n _ _ (by omega), upd_n _ _ (by omega)]
    exact h.md i hi
  · intro i hi
    rw [jup_n _ _ (by omega), upd_n _ _ (by omega)]
    exact h.nd i hi
  · intro i hi
    rw [jup_s]
    by_cases e : i = q
    · subst e
      rw [upd_s, upd_s]
    · rw [upd_n _ _ e, upd_n _ _ (by omega)]
      exact h.hr i hi
  · intro i hi
    rw [jup_n _ _ (by omega), upd_n _ _ (by omega)]
    exact h.tk i hi
  · intro i hi
    rw [jup_n _ _ (by omega), upd_n _ _ (by omega)]
    exact h.hd i hi
theorem RK.w_md {m : jM} {kc : Nat} {st : Nat → Int32} {V P : Nat} (h : RK m kc st V P) (hV : V ≤ 3) (hP : P ≤ 5) {q : Nat} (hq : q < P) (x : Int32) : RK (jup m (kc + 5) (upd (m (kc + 5)) q x)) kc (upd st (21 + q) x) V P := by
  refine ⟨?_, ?_, ?_, ?_, ?_, ?_, ?_, ?_, ?_, ?_, ?_, ?_, ?_, ?_⟩
  · rw [jup_n _ _ (by omega), upd_n _ _ (by omega)]
    exact h.bk
  · rw [jup_n _ _ (by omega)]
    exact h.vs
  · rw [jup_n _ _ (by omega)]
    exact h.ps
  · rw [jup_n _ _ (by omega), upd_n _ _ (by omega)]
    exact h.br
  · intro i hi
    rw [jup_n _ _ (by omega), upd_n _ _ (by omega)]
    exact h.lo i hi
  · intro i hi
    rw [jup_n _ _ (by omega), upd_n _ _ (by omega)]
    exact h.hi i hi
  · intro i hi
    rw [jup_n _ _ (by omega), upd_n _ _ (by omega)]
    exact h.bt i hi
  · intro i hi
    rw [jup_n _ _ (by omega), upd_n _ _ (by omega)]
    exact h.sg i hi
  · intro i hi
    rw [jup_n _ _ (by omega), upd_n _ _ (by omega)]
    exact h.kd i hi
  · intro i hi
    rw [jup_s]
    by_cases e : i = q
    · subst e
      rw [upd_s, upd_s]
    · rw [upd_n _ _ e, upd_n _ _ (by omega)]
      exact h.md i hi
  · intro i hi
    rw [jup_n _ _ (by omega), upd_n _ _ (by omega)]
    exact h.nd i hi
  · intro i hi
    rw [jup_n _ _ (by omega), upd_n _ _ (by omega)]
    exact h.hr i hi
  · intro i hi
    rw [jup_n _ _ (by omega), upd_n _ _ (by omega)]
    exact h.tk i hi
  · intro i hi
    rw [jup_n _ _ (by omega), upd_n _ _ (by omega)]
    exact h.hd i hi
theorem RK.w_dn {m : jM} {kc : Nat} {st : Nat → Int32} {V P : Nat} (h : RK m kc st V P) (hV : V ≤ 3) (hP : P ≤ 5) {q : Nat} (hq : q < P) (x : Int32) : RK m kc (upd st (41 + q) x) V P := by
  refine ⟨?_, ?_, ?_, ?_, ?_, ?_, ?_, ?_, ?_, ?_, ?_, ?_, ?_, ?_⟩
  · rw [upd_n _ _ (by omega)]
    exact h.bk
  · exact h.vs
  · exact h.ps
  · rw [upd_n _ _ (by omega)]
    exact h.br
  · intro i hi
    rw [upd_n _ _ (by omega)]
    exact h.lo i hi
  · intro i hi
    rw [upd_n _ _ (by omega)]
    exact h.hi i hi
  · intro i hi
    rw [upd_n _ _ (by omega)]
    exact h.bt i hi
  · intro i hi
    rw [upd_n _ _ (by omega)]
    exact h.sg i hi
  · intro i hi
    rw [upd_n _ _ (by omega)]
    exact h.kd i hi
  · intro i hi
    rw [upd_n _ _ (by omega)]
    exact h.md i hi
  · intro i hi
    rw [upd_n _ _ (by omega)]
    exact h.nd i hi
  · intro i hi
    rw [upd_n _ _ (by omega)]
    exact h.hr i hi
  · intro i hi
    rw [upd_n _ _ (by omega)]
    exact h.tk i hi
  · intro i hi
    rw [upd_n _ _ (by omega)]
    exact h.hd i hi
theorem RK.w_br {m : jM} {kc : Nat} {st : Nat → Int32} {V P : Nat} (h : RK m kc st V P) (hV : V ≤ 3) (hP : P ≤ 5) (x : Int32) : RK (jup m kc (upd (m kc) 10 x)) kc (upd st 3 x) V P := by
  refine ⟨?_, ?_, ?_, ?_, ?_, ?_, ?_, ?_, ?_, ?_, ?_, ?_, ?_, ?_⟩
  · rw [jup_s, upd_n _ _ (by decide), upd_n _ _ (by decide)]
    exact h.bk
  · rw [jup_s, upd_n _ _ (by decide)]
    exact h.vs
  · rw [jup_s, upd_n _ _ (by decide)]
    exact h.ps
  · rw [jup_s, upd_s, upd_s]
  · intro i hi
    rw [jup_n _ _ (by omega), upd_n _ _ (by omega)]
    exact h.lo i hi
  · intro i hi
    rw [jup_n _ _ (by omega), upd_n _ _ (by omega)]
    exact h.hi i hi
  · intro i hi
    rw [jup_n _ _ (by omega), upd_n _ _ (by omega)]
    exact h.bt i hi
  · intro i hi
    rw [jup_n _ _ (by omega), upd_n _ _ (by omega)]
    exact h.sg i hi
  · intro i hi
    rw [jup_n _ _ (by omega), upd_n _ _ (by omega)]
    exact h.kd i hi
  · intro i hi
    rw [jup_n _ _ (by omega), upd_n _ _ (by omega)]
    exact h.md i hi
  · intro i hi
    rw [jup_n _ _ (by omega), upd_n _ _ (by omega)]
    exact h.nd i hi
  · intro i hi
    rw [jup_n _ _ (by omega), upd_n _ _ (by omega)]
    exact h.hr i hi
  · intro i hi
    rw [jup_n _ _ (by omega), upd_n _ _ (by omega)]
    exact h.tk i hi
  · intro i hi
    rw [jup_n _ _ (by omega), upd_n _ _ (by omega)]
    exact h.hd i hi
theorem KF.w {kc : Nat} {m : jM} {j : Nat} (h : 0 < j) (hj : j ≤ 10) (f : Nat → Int32) : KF kc m (jup m (kc + j) f) := ⟨fun c a => jup_n _ _ (by omega), by rw [jup_n _ _ (by omega)]⟩
theorem KF.wb {kc : Nat} {m : jM} {i : Nat} (h : i ≠ 0) (x : Int32) : KF kc m (jup m kc (upd (m kc) i x)) := ⟨fun c a => jup_n _ _ (by omega), by rw [jup_s, upd_n _ _ (fun z => h z.symm)]⟩
def jdW (k mode ahead N l : Int32) : Int32 := if N = 0 then 0 else if ¬ N &&& (mode ^^^ -1) = 0 then 2 else if ¬ k = 3 ∨ (if 0 ≤ l - ahead then l - ahead else -(l - ahead)) = 2 then 1 else 2
def tkW' (k less thick J : Int32) : Int32 := if k = 4 then thick else if k = 5 then (if J = 0 then thick + 1 else 0) else if J = 2 then (if k = 2 then 0 else if thick - less < 0 then 0 else thick - less) else if J = 1 then thick + 1 else thick

set_option maxHeartbeats 2000000 in
set_option maxRecDepth 20000 in
theorem s_Cjudge (kc : Nat) (hk : isK kc) (m : jM) (st : Nat → Int32) (V P : Nat) (hR : RK m kc st V P) (p : Nat) (hP : P ≤ 5) (hp : p < P) (N l : Int32) : iX mX0_judge [.ref kc, .int (nI p), .int N, .int l] m (fun v m1 => m = m1 ∧ v = jdW (st (16 + p)) (st (21 + p)) (st (46 + p)) N l) := by
  refine jX_of (L := [some (.ref kc), some (.int (nI p)), some (.int N), some (.int l), none]) 1 rfl rfl (by decide +kernel) rfl ?_
  refine e_iload_n dX0_judge_0 rfl ?_
  refine e_if_ne 6 dX0_judge_1 (by decide) (fun c1 => ?_) (fun c1 => ?_)
  · refine e_iload_n dX0_judge_6 rfl ?_
    refine e_aload_n dX0_judge_7 rfl ?_
    refine e_getR (o := 5) (b := kc + 5) dX0_judge_8 lkX0_38 (isK.l0 hk) rfl (by decide) rfl ?_
    refine e_iload_n dX0_judge_11 rfl ?_
    refine e_iald dX0_judge_12 (isK.l5 hk) p rfl (by omega) (by decide) ?_
    rw [show m (kc + 5) p = st (21 + p) from hR.md p hp]
    refine e_iconst (v := -1) dX0_judge_13 rfl ?_
    refine e_ixor dX0_judge_14 ?_
    refine e_iand dX0_judge_15 ?_
    refine e_if_eq 21 dX0_judge_16 (by decide) (fun c16 => ?_) (fun c16 => ?_)
    · refine e_iload_n dX0_judge_21 rfl ?_
      refine e_aload_n dX0_judge_22 rfl ?_
      refine e_getR (o := 10) (b := kc + 10) dX0_judge_23 lkX0_56 (isK.l0 hk) rfl (by decide) rfl ?_
      refine e_iload_n dX0_judge_26 rfl ?_
      refine e_iald dX0_judge_27 (isK.l10 hk) p rfl (by omega) (by decide) ?_
      rw [show m (kc + 10) p = st (46 + p) from hR.hd p hp]
      refine e_isub dX0_judge_28 ?_
      refine e_callSi (n := 1) mMath_abs [.int (l - (st (46 + p)))] dX0_judge_29 ckX0_102 rfl (by decide +kernel) rfl rfl (Nat.le_of_ble_eq_true rfl) ⟨Nat.zero_le _, Nat.zero_le _⟩ (s_abs m (l - (st (46 + p)))) (fun v29 m1 hm1 => ?_)
      obtain ⟨rfl, rfl⟩ := hm1
      refine e_iconst (v := 2) dX0_judge_32 rfl ?_
      refine e_icmp_ne 40 dX0_judge_33 (by decide) (fun c33 => ?_) (fun c33 => ?_)
      · refine e_iconst (v := 0) dX0_judge_40 rfl ?_
        refine e_istore (L' := [some (.ref kc), some (.int (nI p)), some (.int N), some (.int l), some (.int 0)]) dX0_judge_41 (Nat.le_of_ble_eq_true rfl) (Nat.le_of_ble_eq_true rfl) (jnl_at (i := 3) rfl) rfl ?_
        refine e_aload_n dX0_judge_43 rfl ?_
        refine e_getR (o := 4) (b := kc + 4) dX0_judge_44 lkX0_35 (isK.l0 hk) rfl (by decide) rfl ?_
        refine e_iload_n dX0_judge_47 rfl ?_
        refine e_iald dX0_judge_48 (isK.l4 hk) p rfl (by omega) (by decide) ?_
        rw [show m (kc + 4) p = st (16 + p) from hR.kd p hp]
        refine e_iconst (v := 3) dX0_judge_49 rfl ?_
        refine e_icmp_ne 58 dX0_judge_50 (by decide) (fun c50 => ?_) (fun c50 => ?_)
        · refine e_iconst (v := 1) dX0_judge_58 rfl ?_
          refine e_goto 63 dX0_judge_59 (by decide) ?_
          exact e_iret dX0_judge_63 rfl (⟨rfl, by first | (simp only [jdW, *, ↓reduceIte, not_true, not_false_eq_true, or_true, true_or, or_self]; done) | (simp [jdW, *]; done) | (simp_all [jdW]; done)⟩)
        · refine e_iload dX0_judge_53 rfl ?_
          refine e_if_eq 62 dX0_judge_55 (by decide) (fun c55 => ?_) (fun h => absurd h (by decide))
          refine e_iconst (v := 2) dX0_judge_62 rfl ?_
          exact e_iret dX0_judge_63 rfl (⟨rfl, by first | (simp only [jdW, *, ↓reduceIte, not_true, not_false_eq_true, or_true, true_or, or_self]; done) | (simp [jdW, *]; done) | (simp_all [jdW]; done)⟩)
      · refine e_iconst (v := 1) dX0_judge_36 rfl ?_
        refine e_goto 41 dX0_judge_37 (by decide) ?_
        refine e_istore (L' := [some (.ref kc), some (.int (nI p)), some (.int N), some (.int l), some (.int 1)]) dX0_judge_41 (Nat.le_of_ble_eq_true rfl) (Nat.le_of_ble_eq_true rfl) (jnl_at (i := 3) rfl) rfl ?_
        refine e_aload_n dX0_judge_43 rfl ?_
        refine e_getR (o := 4) (b := kc + 4) dX0_judge_44 lkX0_35 (isK.l0 hk) rfl (by decide) rfl ?_
        refine e_iload_n dX0_judge_47 rfl ?_
        refine e_iald dX0_judge_48 (isK.l4 hk) p rfl (by omega) (by decide) ?_
        rw [show m (kc + 4) p = st (16 + p) from hR.kd p hp]
        refine e_iconst (v := 3) dX0_judge_49 rfl ?_
        refine e_icmp_ne 58 dX0_judge_50 (by decide) (fun c50 => ?_) (fun c50 => ?_)
        · refine e_iconst (v := 1) dX0_judge_58 rfl ?_
          refine e_goto 63 dX0_judge_59 (by decide) ?_
          exact e_iret dX0_judge_63 rfl (⟨rfl, by first | (simp only [jdW, *, ↓reduceIte, not_true, not_false_eq_true, or_true, true_or, or_self]; done) | (simp [jdW, *]; done) | (simp_all [jdW]; done)⟩)
        · refine e_iload dX0_judge_53 rfl ?_
          refine e_if_eq 62 dX0_judge_55 (by decide) (fun h => absurd h (by decide)) (fun c55 => ?_)
          refine e_iconst (v := 1) dX0_judge_58 rfl ?_
          refine e_goto 63 dX0_judge_59 (by decide) ?_
          exact e_iret dX0_judge_63 rfl (⟨rfl, by first | (simp only [jdW, *, ↓reduceIte, not_true, not_false_eq_true, or_true, true_or, or_self]; done) | (simp [jdW, *]; done) | (simp_all [jdW]; done)⟩)
    · refine e_iconst (v := 2) dX0_judge_19 rfl ?_
      exact e_iret dX0_judge_20 rfl (⟨rfl, by first | (simp only [jdW, *, ↓reduceIte, not_true, not_false_eq_true, or_true, true_or, or_self]; done) | (simp [jdW, *]; done) | (simp_all [jdW]; done)⟩)
  · refine e_iconst (v := 0) dX0_judge_4 rfl ?_
    exact e_iret dX0_judge_5 rfl (⟨rfl, by first | (simp only [jdW, *, ↓reduceIte, not_true, not_false_eq_true, or_true, true_or, or_self]; done) | (simp [jdW, *]; done) | (simp_all [jdW]; done)⟩)

set_option maxHeartbeats 2000000 in
set_option maxRecDepth 20000 in
theorem s_CthickBy (kc : Nat) (hk : isK kc) (m : jM) (st : Nat → Int32) (V P : Nat) (hR : RK m kc st V P) (p : Nat) (hP : P ≤ 5) (hp : p < P) (J : Int32) : iX mX0_thickBy [.ref kc, .int (nI p), .int J] m (fun v m1 => m = m1 ∧ v = tkW' (st (16 + p)) (st 0) (st (36 + p)) J) := by
  refine jX_of (L := [some (.ref kc), some (.int (nI p)), some (.int J)]) 0 rfl rfl (by decide +kernel) rfl ?_
  refine e_aload_n dX0_thickBy_0 rfl ?_
  refine e_getR (o := 4) (b := kc + 4) dX0_thickBy_1 lkX0_35 (isK.l0 hk) rfl (by decide) rfl ?_
  refine e_iload_n dX0_thickBy_4 rfl ?_
  refine e_iald dX0_thickBy_5 (isK.l4 hk) p rfl (by omega) (by decide) ?_
  rw [show m (kc + 4) p = st (16 + p) from hR.kd p hp]
  refine e_iconst (v := 4) dX0_thickBy_6 rfl ?_
  refine e_icmp_ne 17 dX0_thickBy_7 (by decide) (fun c7 => ?_) (fun c7 => ?_)
  · refine e_aload_n dX0_thickBy_17 rfl ?_
    refine e_getR (o := 4) (b := kc + 4) dX0_thickBy_18 lkX0_35 (isK.l0 hk) rfl (by decide) rfl ?_
    refine e_iload_n dX0_thickBy_21 rfl ?_
    refine e_iald dX0_thickBy_22 (isK.l4 hk) p rfl (by omega) (by decide) ?_
    rw [show m (kc + 4) p = st (16 + p) from hR.kd p hp]
    refine e_iconst (v := 5) dX0_thickBy_23 rfl ?_
    refine e_icmp_ne 44 dX0_thickBy_24 (by decide) (fun c24 => ?_) (fun c24 => ?_)
    · refine e_iload_n dX0_thickBy_44 rfl ?_
      refine e_iconst (v := 2) dX0_thickBy_45 rfl ?_
      refine e_icmp_ne 79 dX0_thickBy_46 (by decide) (fun c46 => ?_) (fun c46 => ?_)
      · refine e_iload_n dX0_thickBy_79 rfl ?_
        refine e_iconst (v := 1) dX0_thickBy_80 rfl ?_
        refine e_icmp_ne 95 dX0_thickBy_81 (by decide) (fun c81 => ?_) (fun c81 => ?_)
        · refine e_aload_n dX0_thickBy_95 rfl ?_
          refine e_getR (o := 9) (b := kc + 9) dX0_thickBy_96 lkX0_53 (isK.l0 hk) rfl (by decide) rfl ?_
          refine e_iload_n dX0_thickBy_99 rfl ?_
          refine e_iald dX0_thickBy_100 (isK.l9 hk) p rfl (by omega) (by decide) ?_
          rw [show m (kc + 9) p = st (36 + p) from hR.tk p hp]
          exact e_iret dX0_thickBy_101 rfl (⟨rfl, by first | (simp only [tkW', *, ↓reduceIte]; done) | (simp [tkW', *]; done) | (simp_all [tkW']; done)⟩)
        · refine e_aload_n dX0_thickBy_84 rfl ?_
          refine e_getR (o := 9) (b := kc + 9) dX0_thickBy_85 lkX0_53 (isK.l0 hk) rfl (by decide) rfl ?_
          refine e_iload_n dX0_thickBy_88 rfl ?_
          refine e_iald dX0_thickBy_89 (isK.l9 hk) p rfl (by omega) (by decide) ?_
          rw [show m (kc + 9) p = st (36 + p) from hR.tk p hp]
          refine e_iconst (v := 1) dX0_thickBy_90 rfl ?_
          refine e_iadd dX0_thickBy_91 ?_
          refine e_goto 101 dX0_thickBy_92 (by decide) ?_
          exact e_iret dX0_thickBy_101 rfl (⟨rfl, by first | (simp only [tkW', *, ↓reduceIte]; done) | (simp [tkW', *]; done) | (simp_all [tkW']; done)⟩)
      · refine e_aload_n dX0_thickBy_49 rfl ?_
        refine e_getR (o := 4) (b := kc + 4) dX0_thickBy_50 lkX0_35 (isK.l0 hk) rfl (by decide) rfl ?_
        refine e_iload_n dX0_thickBy_53 rfl ?_
        refine e_iald dX0_thickBy_54 (isK.l4 hk) p rfl (by omega) (by decide) ?_
        rw [show m (kc + 4) p = st (16 + p) from hR.kd p hp]
        refine e_iconst (v := 2) dX0_thickBy_55 rfl ?_
        refine e_icmp_ne 63 dX0_thickBy_56 (by decide) (fun c56 => ?_) (fun c56 => ?_)
        · refine e_aload_n dX0_thickBy_63 rfl ?_
          refine e_getR (o := 9) (b := kc + 9) dX0_thickBy_64 lkX0_53 (isK.l0 hk) rfl (by decide) rfl ?_
          refine e_iload_n dX0_thickBy_67 rfl ?_
          refine e_iald dX0_thickBy_68 (isK.l9 hk) p rfl (by omega) (by decide) ?_
          rw [show m (kc + 9) p = st (36 + p) from hR.tk p hp]
          refine e_aload_n dX0_thickBy_69 rfl ?_
          refine e_getI dX0_thickBy_70 lkX0_15 (isK.l0 hk) rfl ?_
          rw [show m kc 1 = st 0 from hR.bk]
          refine e_isub dX0_thickBy_73 ?_
          refine e_iconst (v := 0) dX0_thickBy_74 rfl ?_
          refine e_callSi (n := 2) mMath_max [.int ((st (36 + p)) - (st 0)), .int 0] dX0_thickBy_75 ckX0_107 rfl (by decide +kernel) rfl rfl (Nat.le_of_ble_eq_true rfl) ⟨Nat.zero_le _, Nat.zero_le _⟩ (s_max m ((st (36 + p)) - (st 0)) 0) (fun v75 m1 hm1 => ?_)
          obtain ⟨rfl, rfl⟩ := hm1
          exact e_iret dX0_thickBy_78 rfl (⟨rfl, by first | (simp only [tkW', *, ↓reduceIte]; done) | (simp [tkW', *]; done) | (simp_all [tkW']; done)⟩)
        · refine e_iconst (v := 0) dX0_thickBy_59 rfl ?_
          refine e_goto 78 dX0_thickBy_60 (by decide) ?_
          exact e_iret dX0_thickBy_78 rfl (⟨rfl, by first | (simp only [tkW', *, ↓reduceIte]; done) | (simp [tkW', *]; done) | (simp_all [tkW']; done)⟩)
    · refine e_iload_n dX0_thickBy_27 rfl ?_
      refine e_if_ne 42 dX0_thickBy_28 (by decide) (fun c28 => ?_) (fun c28 => ?_)
      · refine e_iconst (v := 0) dX0_thickBy_42 rfl ?_
        exact e_iret dX0_thickBy_43 rfl (⟨rfl, by first | (simp only [tkW', *, ↓reduceIte]; done) | (simp [tkW', *]; done) | (simp_all [tkW']; done)⟩)
      · refine e_aload_n dX0_thickBy_31 rfl ?_
        refine e_getR (o := 9) (b := kc + 9) dX0_thickBy_32 lkX0_53 (isK.l0 hk) rfl (by decide) rfl ?_
        refine e_iload_n dX0_thickBy_35 rfl ?_
        refine e_iald dX0_thickBy_36 (isK.l9 hk) p rfl (by omega) (by decide) ?_
        rw [show m (kc + 9) p = st (36 + p) from hR.tk p hp]
        refine e_iconst (v := 1) dX0_thickBy_37 rfl ?_
        refine e_iadd dX0_thickBy_38 ?_
        refine e_goto 43 dX0_thickBy_39 (by decide) ?_
        exact e_iret dX0_thickBy_43 rfl (⟨rfl, by first | (simp only [tkW', *, ↓reduceIte]; done) | (simp [tkW', *]; done) | (simp_all [tkW']; done)⟩)
  · refine e_aload_n dX0_thickBy_10 rfl ?_
    refine e_getR (o := 9) (b := kc + 9) dX0_thickBy_11 lkX0_53 (isK.l0 hk) rfl (by decide) rfl ?_
    refine e_iload_n dX0_thickBy_14 rfl ?_
    refine e_iald dX0_thickBy_15 (isK.l9 hk) p rfl (by omega) (by decide) ?_
    rw [show m (kc + 9) p = st (36 + p) from hR.tk p hp]
    exact e_iret dX0_thickBy_16 rfl (⟨rfl, by first | (simp only [tkW', *, ↓reduceIte]; done) | (simp [tkW', *]; done) | (simp_all [tkW']; done)⟩)
