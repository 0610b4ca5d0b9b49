/-! ===== the text: tokens ===== -/
def isD (x : Int32) : Bool := decide (48 ≤ x ∧ x ≤ 57)
/-- how many figures stand from p on -/
def dgC (t : Nat → Int32) (len : Nat) : Nat → Nat → Nat
  | 0, _ => 0
  | f + 1, p => if p < len ∧ isD (t p) = true then dgC t len f (p + 1) + 1 else 0
def dgR (t : Nat → Int32) (len p : Nat) : Nat := dgC t len (len - p) p
theorem dgC_is (t : Nat → Int32) (len : Nat) : ∀ (k f p : Nat), k ≤ f → (∀ j, j < k → p + j < len ∧ isD (t (p + j)) = true) → (k = f ∨ ¬ (p + k < len ∧ isD (t (p + k)) = true)) → dgC t len f p = k
  | 0, 0, p, _, _, _ => rfl
  | 0, f + 1, p, _, _, h => by
    rcases h with h | h
    · cases h
    · exact if_neg h
  | k + 1, 0, p, h, _, _ => by omega
  | k + 1, f + 1, p, hk, hj, h => by
    show (if p < len ∧ isD (t p) = true then dgC t len f (p + 1) + 1 else 0) = _
    have h0 := hj 0 (by omega)
    rw [Nat.add_zero] at h0
    rw [if_pos h0]
    rw [dgC_is t len k f (p + 1) (by omega) (fun j h2 => by have := hj (j + 1) (by omega); rw [show p + 1 + j = p + (j + 1) by omega]; exact this) (by
      rcases h with h | h
      · exact Or.inl (by omega)
      · exact Or.inr (by rw [show p + 1 + k = p + (k + 1) by omega]; exact h))]
theorem dgR_is {t : Nat → Int32} {len k p : Nat} (hk : p + k ≤ len) (hj : ∀ j, j < k → isD (t (p + j)) = true) (h : p + k = len ∨ ¬ isD (t (p + k)) = true) : dgR t len p = k :=
  dgC_is t len k (len - p) p (by omega) (fun j h2 => ⟨by omega, hj j h2⟩) (by
    rcases h with h | h
    · exact Or.inl (by omega)
    · exact Or.inr (fun q => h q.2))
/-- the number that k figures from p on spell, as the reference keeps it -/
def vM (t : Nat → Int32) (p : Nat) : Nat → Int32
  | 0 => 0
  | k + 1 => if 999 < vM t p k then vM t p k else 10 * vM t p k + t (p + k) - 48
def isLt (x : Int32) : Bool := decide (97 ≤ x ∧ x ≤ 122) || (decide (x = 44) || decide (x = 59))
def tkT (t : Nat → Int32) (len p : Nat) : Int32 := if 0 < dgR t len p then (if 3 < dgR t len p then 0 else 2) else if p = len then 3 else (if isLt (t p) = true then 1 else 0)
def tkW (t : Nat → Int32) (len p : Nat) : Int32 := if 0 < dgR t len p then vM t p (dgR t len p) else if p = len then 0 else t p
def tkQ (t : Nat → Int32) (len p : Nat) : Nat := if 0 < dgR t len p then p + dgR t len p else if p = len then p else p + 1
def tkF (f : Nat → Int32) (b tk v q : Int32) : Nat → Int32 := upd (upd (upd (upd f 13 b) 11 tk) 12 v) 10 q
theorem tkF_eq {f : Nat → Int32} {b tk v q : Int32} {g : Nat → Int32} (h13 : g 13 = b) (h11 : g 11 = tk) (h12 : g 12 = v) (h10 : g 10 = q) (ho : ∀ j, j ≠ 10 → j ≠ 11 → j ≠ 12 → j ≠ 13 → g j = f j) : tkF f b tk v q = g := by
  funext j
  unfold tkF upd
  by_cases a : j = 10
  · rw [if_pos a, a, h10]
  rw [if_neg a]
  by_cases b1 : j = 12
  · rw [if_pos b1, b1, h12]
  rw [if_neg b1]
  by_cases c : j = 11
  · rw [if_pos c, c, h11]
  rw [if_neg c]
  by_cases d : j = 13
  · rw [if_pos d, d, h13]
  rw [if_neg d]
  exact (ho j a c b1 d).symm
theorem isLt_1 {x : Int32} (h : 97 ≤ x ∧ x ≤ 122) : isLt x = true := by unfold isLt; rw [decide_eq_true h]; rfl
theorem isLt_2 {x : Int32} (h : x = 44) : isLt x = true := by rw [h]; decide
theorem isLt_3 {x : Int32} (h : x = 59) : isLt x = true := by rw [h]; decide
theorem isLt_f {x : Int32} (h : ¬ (97 ≤ x ∧ x ≤ 122)) (h2 : ¬ x = 44) (h3 : ¬ x = 59) : ¬ isLt x = true := by
  unfold isLt
  rw [decide_eq_false h, decide_eq_false h2, decide_eq_false h3]
  decide
theorem s_dummy : True := trivial

set_option maxHeartbeats 2000000 in
set_option maxRecDepth 20000 in
theorem s_next (m : jM) (len p : Nat) (hl : len ≤ 120) (hp : p ≤ len) (hb : m 98 8 = nI len) (hpl : m 98 10 = nI p) : vX mX4_nextToken [.ref 98] m (fun m1 => jup m 98 (tkF (m 98) (nI p) (tkT (m 104) len p) (tkW (m 104) len p) (nI (tkQ (m 104) len p))) = m1) := by
  refine jX_of (L := [some (.ref 98)]) 0 rfl rfl (by decide +kernel) rfl ?_
  refine e_aload_n dX4_nextToken_0 rfl ?_
  refine e_aload_n dX4_nextToken_1 rfl ?_
  refine e_getI dX4_nextToken_2 lkX4_88 rfl rfl ?_
  rw [show m 98 10 = nI p from hpl]
  refine e_putI dX4_nextToken_5 lkX4_91 rfl rfl fwX4_13 (Or.inl rfl) (fun na hna => ?_)
  refine e_aload_n dX4_nextToken_8 rfl ?_
  refine e_aload_n dX4_nextToken_9 rfl ?_
  refine e_getI dX4_nextToken_10 lkX4_88 rfl rfl ?_
  rw [show na 98 10 = nI p from by rw [hna, jup_s]; simp [upd, hpl]]
  refine e_aload_n dX4_nextToken_13 rfl ?_
  refine e_getI dX4_nextToken_14 lkX4_84 rfl rfl ?_
  rw [show na 98 8 = nI len from by rw [hna, jup_s]; simp [upd, hb]]
  refine e_icmp_ne 24 dX4_nextToken_17 (by decide) (fun c17 => ?_) (fun c17 => ?_)
  · have hpe : ¬ p = len := fun q => c17 (by rw [q])
    refine e_iconst (v := 0) dX4_nextToken_24 rfl ?_
    refine e_putI dX4_nextToken_25 lkX4_94 rfl rfl fwX4_11 (Or.inl rfl) (fun nb hnb => ?_)
    refine e_aload_n dX4_nextToken_28 rfl ?_
    refine e_iconst (v := 0) dX4_nextToken_29 rfl ?_
    refine e_putI dX4_nextToken_30 lkX4_97 rfl rfl fwX4_12 (Or.inl rfl) (fun nc hnc => ?_)
    refine e_loopS (σ := Unit) 33 (len - p) (fun k _ => [some (.ref 98)]) (fun k _ mm => mm = jup m 98 (tkF (m 98) (nI p) (if p = len then 3 else 0 : Int32) (vM (m 104) p k) (nI (p + k))) ∧ (∀ j, j < k → isD (m 104 (p + j)) = true) ∧ p + k ≤ len) 0 () (Nat.zero_le _) rfl (⟨by rw [hnc, hnb, hna]; simp only [jup_s, jup_jup]; refine congrArg (jup m 98) (Eq.symm (tkF_eq ?_ ?_ ?_ ?_ ?_)) <;> first | (intro j a b c d; simp [upd, a, b, c, d]; done) | (simp [upd, vM, hpl, hpe]; done), fun j hj => absurd hj (Nat.not_lt_zero j), by omega⟩) ?_ ?_
    · intro _ mm hI
      show jE _ _ 33 [some (.ref 98)] [] mm
      obtain ⟨hI1, hI2, hI3⟩ := hI
      obtain ⟨k, hk⟩ : ∃ k, k = len - p := ⟨_, rfl⟩
      rw [← hk] at hI1 hI2 hI3
      have g98 : mm 98 = tkF (m 98) (nI p) (if p = len then 3 else 0 : Int32) (vM (m 104) p k) (nI (p + k)) := by rw [hI1, jup_s]
      have g104 : mm 104 = m 104 := by rw [hI1, jup_n _ _ (by decide)]
      have e8 : mm 98 8 = nI len := by rw [g98]; simp [tkF, upd, hb]
      have e10 : mm 98 10 = nI (p + k) := by rw [g98]; simp [tkF, upd]
      have e11 : mm 98 11 = (if p = len then 3 else 0 : Int32) := by rw [g98]; simp [tkF, upd]
      have e12 : mm 98 12 = vM (m 104) p k := by rw [g98]; simp [tkF, upd]
      have e13 : mm 98 13 = nI p := by rw [g98]; simp [tkF, upd]
      have eo : ∀ j, j ≠ 10 → j ≠ 11 → j ≠ 12 → j ≠ 13 → mm 98 j = m 98 j := by
        intro j a b c d
        rw [g98]
        simp [tkF, upd, a, b, c, d]
      refine e_aload_n dX4_nextToken_33 rfl ?_
      refine e_getI dX4_nextToken_34 lkX4_88 rfl rfl ?_
      rw [show mm 98 10 = nI (p + k) from e10]
      refine e_aload_n dX4_nextToken_37 rfl ?_
      refine e_getI dX4_nextToken_38 lkX4_84 rfl rfl ?_
      rw [show mm 98 8 = nI len from e8]
      refine e_icmp_ge 120 dX4_nextToken_41 (by decide) (fun c41 => ?_) (fun h => absurd ((j_le (by omega) (by omega)).mpr (by omega)) h)
      have hR : dgR (m 104) len p = k := dgR_is hI3 hI2 (by first | exact Or.inr (fun z => qd (of_decide_eq_true z)) | exact Or.inl (by omega))
      refine e_aload_n dX4_nextToken_120 rfl ?_
      refine e_getI dX4_nextToken_121 lkX4_88 rfl rfl ?_
      rw [show mm 98 10 = nI (p + k) from e10]
      refine e_aload_n dX4_nextToken_124 rfl ?_
      refine e_getI dX4_nextToken_125 lkX4_91 rfl rfl ?_
      rw [show mm 98 13 = nI p from e13]
      refine e_icmp_le 156 dX4_nextToken_128 (by decide) (fun c128 => ?_) (fun c128 => ?_)
      · have hk0 : k = 0 := by have := (j_le (by omega) (by omega)).mp c128; omega
        refine e_aload_n dX4_nextToken_156 rfl ?_
        refine e_getI dX4_nextToken_157 lkX4_94 rfl rfl ?_
        rw [show mm 98 11 = (if p = len then 3 else 0 : Int32) from e11]
        refine e_if_ne 230 dX4_nextToken_160 (by decide) (fun c160 => ?_) (fun c160 => ?_)
        · have hpe2 : p = len := by
            by_cases z : p = len
            · exact z
            · rw [if_neg z] at c160; exact absurd rfl c160
          exact e_vret dX4_nextToken_230 rfl (by rw [show mm = jup m 98 (mm 98) from by rw [hI1, jup_s]]; exact congrArg (jup m 98) (tkF_eq (by exact e13) (by rw [e11]; unfold tkT; rw [hR, hk0, if_pos hpe2, if_neg (Nat.lt_irrefl 0), if_pos hpe2]) (by rw [e12]; unfold tkW; rw [hR, hk0, if_neg (Nat.lt_irrefl 0), if_pos hpe2] <;> rfl) (by rw [e10]; unfold tkQ; rw [hR, hk0, if_neg (Nat.lt_irrefl 0), if_pos hpe2] <;> rfl) (by exact eo)))
        · have hpe2 : ¬ p = len := fun z => by rw [if_pos z] at c160; exact absurd c160 (by decide)
          have hpk : p + k = p := by omega
          refine e_aload_n dX4_nextToken_163 rfl ?_
          refine e_aload_n dX4_nextToken_164 rfl ?_
          refine e_getR (o := 6) (b := 104) dX4_nextToken_165 lkX4_25 rfl rfl (by decide) rfl ?_
          refine e_aload_n dX4_nextToken_168 rfl ?_
          refine e_getI dX4_nextToken_169 lkX4_88 rfl rfl ?_
          rw [show mm 98 10 = nI (p + k) from e10]
          refine e_iald dX4_nextToken_172 rfl (p + k) rfl (by omega) (by decide) ?_
          rw [show mm 104 (p + k) = m 104 p from by rw [g104, hpk]]
          refine e_putI dX4_nextToken_173 lkX4_97 rfl rfl fwX4_12 (Or.inl rfl) (fun my hmy => ?_)
          refine e_aload_n dX4_nextToken_176 rfl ?_
          refine e_aload_n dX4_nextToken_177 rfl ?_
          refine e_getI dX4_nextToken_178 lkX4_97 rfl rfl ?_
          rw [show my 98 12 = m 104 p from by rw [hmy, jup_s, upd_s]]
          refine e_i2l dX4_nextToken_181 ?_
          refine e_ldc2 dX4_nextToken_182 kkX4_104 ?_
          refine e_ldc2 dX4_nextToken_185 kkX4_106 ?_
          refine e_callSi (n := 3) mX4_in [.long (Int32.toInt64 (m 104 p)), .long (97), .long (122)] dX4_nextToken_188 ckX4_60 rfl (by decide +kernel) rfl rfl (Nat.le_of_ble_eq_true rfl) ⟨Nat.zero_le _, Nat.zero_le _⟩ (s_in32 (m 104 p) 97 122 my) (fun v188 m5 hm5 => ?_)
          rcases hm5 with ⟨rfl, ⟨rfl, ql⟩ | ⟨rfl, ql⟩⟩
          · refine e_if_ne 212 dX4_nextToken_191 (by decide) (fun c191 => ?_) (fun h => absurd h (by decide))
            refine e_iconst (v := 1) dX4_nextToken_212 rfl ?_
            refine e_goto 217 dX4_nextToken_213 (by decide) ?_
            refine e_putI dX4_nextToken_217 lkX4_94 rfl rfl fwX4_11 (Or.inl rfl) (fun mx hmx => ?_)
            refine e_aload_n dX4_nextToken_220 rfl ?_
            refine e_dup dX4_nextToken_221 rfl ?_
            refine e_getI dX4_nextToken_222 lkX4_88 rfl rfl ?_
            rw [show mx 98 10 = nI (p + k) from by rw [hmx, jup_s, upd_n _ _ (by decide), hmy, jup_s, upd_n _ _ (by decide)]; exact e10]
            refine e_iconst (v := 1) dX4_nextToken_225 rfl ?_
            refine e_iadd dX4_nextToken_226 ?_
            rw [show (nI (p + k)) + 1 = nI (p + k + 1) from nI_1 _]
            refine e_putI dX4_nextToken_227 lkX4_88 rfl rfl fwX4_10 (Or.inl rfl) (fun mz hmz => ?_)
            exact e_vret dX4_nextToken_230 rfl (by rw [show mz = jup m 98 (mz 98) from by rw [hmz, hmx, hmy, hI1]; simp only [jup_s, jup_jup]]; exact congrArg (jup m 98) (tkF_eq (by rw [hmz, jup_s, upd_n _ _ (by decide), hmx, jup_s, upd_n _ _ (by decide), hmy, jup_s, upd_n _ _ (by decide)]; exact e13) (by rw [hmz, jup_s, upd_n _ _ (by decide), hmx, jup_s, upd_s]; unfold tkT; rw [hR, hk0, if_neg (Nat.lt_irrefl 0), if_neg hpe2]; first | rw [if_pos (isLt_1 ql)] | rw [if_pos (isLt_2 c200)] | rw [if_pos (isLt_3 c209)] | rw [if_neg (isLt_f ql c200 c209)]) (by rw [hmz, jup_s, upd_n _ _ (by decide), hmx, jup_s, upd_n _ _ (by decide), hmy, jup_s, upd_s]; unfold tkW; rw [hR, hk0, if_neg (Nat.lt_irrefl 0), if_neg hpe2] <;> rfl) (by rw [hmz, jup_s, upd_s]; unfold tkQ; rw [hR, hk0, if_neg (Nat.lt_irrefl 0), if_neg hpe2] <;> rfl) (by intro j a b c d; rw [hmz, jup_s, upd_n _ _ a, hmx, jup_s, upd_n _ _ b, hmy, jup_s, upd_n _ _ c]; exact eo j a b c d)))
          · refine e_if_ne 212 dX4_nextToken_191 (by decide) (fun h => absurd h (by decide)) (fun c191 => ?_)
            refine e_aload_n dX4_nextToken_194 rfl ?_
            refine e_getI dX4_nextToken_195 lkX4_97 rfl rfl ?_
            rw [show my 98 12 = m 104 p from by rw [hmy, jup_s, upd_s]]
            refine e_bipush (v := 44) dX4_nextToken_198 rfl ?_
            refine e_icmp_eq 212 dX4_nextToken_200 (by decide) (fun c200 => ?_) (fun c200 => ?_)
            · refine e_iconst (v := 1) dX4_nextToken_212 rfl ?_
              refine e_goto 217 dX4_nextToken_213 (by decide) ?_
              refine e_putI dX4_nextToken_217 lkX4_94 rfl rfl fwX4_11 (Or.inl rfl) (fun mx hmx => ?_)
              refine e_aload_n dX4_nextToken_220 rfl ?_
              refine e_dup dX4_nextToken_221 rfl ?_
              refine e_getI dX4_nextToken_222 lkX4_88 rfl rfl ?_
              rw [show mx 98 10 = nI (p + k) from by rw [hmx, jup_s, upd_n _ _ (by decide), hmy, jup_s, upd_n _ _ (by decide)]; exact e10]
              refine e_iconst (v := 1) dX4_nextToken_225 rfl ?_
              refine e_iadd dX4_nextToken_226 ?_
              rw [show (nI (p + k)) + 1 = nI (p + k + 1) from nI_1 _]
              refine e_putI dX4_nextToken_227 lkX4_88 rfl rfl fwX4_10 (Or.inl rfl) (fun mz hmz => ?_)
              exact e_vret dX4_nextToken_230 rfl (by rw [show mz = jup m 98 (mz 98) from by rw [hmz, hmx, hmy, hI1]; simp only [jup_s, jup_jup]]; exact congrArg (jup m 98) (tkF_eq (by rw [hmz, jup_s, upd_n _ _ (by decide), hmx, jup_s, upd_n _ _ (by decide), hmy, jup_s, upd_n _ _ (by decide)]; exact e13) (by rw [hmz, jup_s, upd_n _ _ (by decide), hmx, jup_s, upd_s]; unfold tkT; rw [hR, hk0, if_neg (Nat.lt_irrefl 0), if_neg hpe2]; first | rw [if_pos (isLt_1 ql)] | rw [if_pos (isLt_2 c200)] | rw [if_pos (isLt_3 c209)] | rw [if_neg (isLt_f ql c200 c209)]) (by rw [hmz, jup_s, upd_n _ _ (by decide), hmx, jup_s, upd_n _ _ (by decide), hmy, jup_s, upd_s]; unfold tkW; rw [hR, hk0, if_neg (Nat.lt_irrefl 0), if_neg hpe2] <;> rfl) (by rw [hmz, jup_s, upd_s]; unfold tkQ; rw [hR, hk0, if_neg (Nat.lt_irrefl 0), if_neg hpe2] <;> rfl) (by intro j a b c d; rw [hmz, jup_s, upd_n _ _ a, hmx, jup_s, upd_n _ _ b, hmy, jup_s, upd_n _ _ c]; exact eo j a b c d)))
            · refine e_aload_n dX4_nextToken_203 rfl ?_
              refine e_getI dX4_nextToken_204 lkX4_97 rfl rfl ?_
              rw [show my 98 12 = m 104 p from by rw [hmy, jup_s, upd_s]]
              refine e_bipush (v := 59) dX4_nextToken_207 rfl ?_
              refine e_icmp_ne 216 dX4_nextToken_209 (by decide) (fun c209 => ?_) (fun c209 => ?_)
              · refine e_iconst (v := 0) dX4_nextToken_216 rfl ?_
                refine e_putI dX4_nextToken_217 lkX4_94 rfl rfl fwX4_11 (Or.inl rfl) (fun mx hmx => ?_)
                refine e_aload_n dX4_nextToken_220 rfl ?_
                refine e_dup dX4_nextToken_221 rfl ?_
                refine e_getI dX4_nextToken_222 lkX4_88 rfl rfl ?_
                rw [show mx 98 10 = nI (p + k) from by rw [hmx, jup_s, upd_n _ _ (by decide), hmy, jup_s, upd_n _ _ (by decide)]; exact e10]
                refine e_iconst (v := 1) dX4_nextToken_225 rfl ?_
                refine e_iadd dX4_nextToken_226 ?_
                rw [show (nI (p + k)) + 1 = nI (p + k + 1) from nI_1 _]
                refine e_putI dX4_nextToken_227 lkX4_88 rfl rfl fwX4_10 (Or.inl rfl) (fun mz hmz => ?_)
                exact e_vret dX4_nextToken_230 rfl (by rw [show mz = jup m 98 (mz 98) from by rw [hmz, hmx, hmy, hI1]; simp only [jup_s, jup_jup]]; exact congrArg (jup m 98) (tkF_eq (by rw [hmz, jup_s, upd_n _ _ (by decide), hmx, jup_s, upd_n _ _ (by decide), hmy, jup_s, upd_n _ _ (by decide)]; exact e13) (by rw [hmz, jup_s, upd_n _ _ (by decide), hmx, jup_s, upd_s]; unfold tkT; rw [hR, hk0, if_neg (Nat.lt_irrefl 0), if_neg hpe2]; first | rw [if_pos (isLt_1 ql)] | rw [if_pos (isLt_2 c200)] | rw [if_pos (isLt_3 c209)] | rw [if_neg (isLt_f ql c200 c209)]) (by rw [hmz, jup_s, upd_n _ _ (by decide), hmx, jup_s, upd_n _ _ (by decide), hmy, jup_s, upd_s]; unfold tkW; rw [hR, hk0, if_neg (Nat.lt_irrefl 0), if_neg hpe2] <;> rfl) (by rw [hmz, jup_s, upd_s]; unfold tkQ; rw [hR, hk0, if_neg (Nat.lt_irrefl 0), if_neg hpe2] <;> rfl) (by intro j a b c d; rw [hmz, jup_s, upd_n _ _ a, hmx, jup_s, upd_n _ _ b, hmy, jup_s, upd_n _ _ c]; exact eo j a b c d)))
              · refine e_iconst (v := 1) dX4_nextToken_212 rfl ?_
                refine e_goto 217 dX4_nextToken_213 (by decide) ?_
                refine e_putI dX4_nextToken_217 lkX4_94 rfl rfl fwX4_11 (Or.inl rfl) (fun mx hmx => ?_)
                refine e_aload_n dX4_nextToken_220 rfl ?_
                refine e_dup dX4_nextToken_221 rfl ?_
                refine e_getI dX4_nextToken_222 lkX4_88 rfl rfl ?_
                rw [show mx 98 10 = nI (p + k) from by rw [hmx, jup_s, upd_n _ _ (by decide), hmy, jup_s, upd_n _ _ (by decide)]; exact e10]
                refine e_iconst (v := 1) dX4_nextToken_225 rfl ?_
                refine e_iadd dX4_nextToken_226 ?_
                rw [show (nI (p + k)) + 1 = nI (p + k + 1) from nI_1 _]
                refine e_putI dX4_nextToken_227 lkX4_88 rfl rfl fwX4_10 (Or.inl rfl) (fun mz hmz => ?_)
                exact e_vret dX4_nextToken_230 rfl (by rw [show mz = jup m 98 (mz 98) from by rw [hmz, hmx, hmy, hI1]; simp only [jup_s, jup_jup]]; exact congrArg (jup m 98) (tkF_eq (by rw [hmz, jup_s, upd_n _ _ (by decide), hmx, jup_s, upd_n _ _ (by decide), hmy, jup_s, upd_n _ _ (by decide)]; exact e13) (by rw [hmz, jup_s, upd_n _ _ (by decide), hmx, jup_s, upd_s]; unfold tkT; rw [hR, hk0, if_neg (Nat.lt_irrefl 0), if_neg hpe2]; first | rw [if_pos (isLt_1 ql)] | rw [if_pos (isLt_2 c200)] | rw [if_pos (isLt_3 c209)] | rw [if_neg (isLt_f ql c200 c209)]) (by rw [hmz, jup_s, upd_n _ _ (by decide), hmx, jup_s, upd_n _ _ (by decide), hmy, jup_s, upd_s]; unfold tkW; rw [hR, hk0, if_neg (Nat.lt_irrefl 0), if_neg hpe2] <;> rfl) (by rw [hmz, jup_s, upd_s]; unfold tkQ; rw [hR, hk0, if_neg (Nat.lt_irrefl 0), if_neg hpe2] <;> rfl) (by intro j a b c d; rw [hmz, jup_s, upd_n _ _ a, hmx, jup_s, upd_n _ _ b, hmy, jup_s, upd_n _ _ c]; exact eo j a b c d)))
      · have hk0 : 0 < k := by have := (j_lt (by omega) (by omega)).mp (Int32.not_le.mp c128); omega
        refine e_aload_n dX4_nextToken_131 rfl ?_
        refine e_aload_n dX4_nextToken_132 rfl ?_
        refine e_getI dX4_nextToken_133 lkX4_88 rfl rfl ?_
        rw [show mm 98 10 = nI (p + k) from e10]
        refine e_aload_n dX4_nextToken_136 rfl ?_
        refine e_getI dX4_nextToken_137 lkX4_91 rfl rfl ?_
        rw [show mm 98 13 = nI p from e13]
        refine e_isub dX4_nextToken_140 ?_
        rw [show (nI (p + k)) - (nI p) = nI k from (pk_sub (by omega)).trans (congrArg nI (by omega))]
        refine e_iconst (v := 3) dX4_nextToken_141 rfl ?_
        refine e_icmp_le 149 dX4_nextToken_142 (by decide) (fun c142 => ?_) (fun c142 => ?_)
        · have hk3 : ¬ 3 < k := by have := (j_le (a := k) (b := 3) (by omega) (by decide)).mp c142; omega
          refine e_iconst (v := 2) dX4_nextToken_149 rfl ?_
          refine e_putI dX4_nextToken_150 lkX4_94 rfl rfl fwX4_11 (Or.inl rfl) (fun mx hmx => ?_)
          refine e_goto 230 dX4_nextToken_153 (by decide) ?_
          exact e_vret dX4_nextToken_230 rfl (by rw [show mx = jup m 98 (mx 98) from by rw [hmx, hI1, jup_s, jup_s, jup_jup]]; exact congrArg (jup m 98) (tkF_eq (by rw [hmx, jup_s, upd_n _ _ (by decide)]; exact e13) (by rw [hmx, jup_s, upd_s]; unfold tkT; rw [hR, if_pos hk0]; first | rw [if_pos hk3] | rw [if_neg hk3]) (by rw [hmx, jup_s, upd_n _ _ (by decide), e12]; unfold tkW; rw [hR, if_pos hk0]) (by rw [hmx, jup_s, upd_n _ _ (by decide), e10]; unfold tkQ; rw [hR, if_pos hk0]) (by intro j a b c d; rw [hmx, jup_s, upd_n _ _ b]; exact eo j a b c d)))
        · have hk3 : 3 < k := (j_lt (a := 3) (b := k) (by decide) (by omega)).mp (Int32.not_le.mp c142)
          refine e_iconst (v := 0) dX4_nextToken_145 rfl ?_
          refine e_goto 150 dX4_nextToken_146 (by decide) ?_
          refine e_putI dX4_nextToken_150 lkX4_94 rfl rfl fwX4_11 (Or.inl rfl) (fun mx hmx => ?_)
          refine e_goto 230 dX4_nextToken_153 (by decide) ?_
          exact e_vret dX4_nextToken_230 rfl (by rw [show mx = jup m 98 (mx 98) from by rw [hmx, hI1, jup_s, jup_s, jup_jup]]; exact congrArg (jup m 98) (tkF_eq (by rw [hmx, jup_s, upd_n _ _ (by decide)]; exact e13) (by rw [hmx, jup_s, upd_s]; unfold tkT; rw [hR, if_pos hk0]; first | rw [if_pos hk3] | rw [if_neg hk3]) (by rw [hmx, jup_s, upd_n _ _ (by decide), e12]; unfold tkW; rw [hR, if_pos hk0]) (by rw [hmx, jup_s, upd_n _ _ (by decide), e10]; unfold tkQ; rw [hR, if_pos hk0]) (by intro j a b c d; rw [hmx, jup_s, upd_n _ _ b]; exact eo j a b c d)))
    · intro k hk _ mm hI ih
      show jE _ _ 33 [some (.ref 98)] [] mm
      obtain ⟨hI1, hI2, hI3⟩ := hI
      have g98 : mm 98 = tkF (m 98) (nI p) (if p = len then 3 else 0 : Int32) (vM (m 104) p k) (nI (p + k)) := by rw [hI1, jup_s]
      have g104 : mm 104 = m 104 := by rw [hI1, jup_n _ _ (by decide)]
      have e8 : mm 98 8 = nI len := by rw [g98]; simp [tkF, upd, hb]
      have e10 : mm 98 10 = nI (p + k) := by rw [g98]; simp [tkF, upd]
      have e11 : mm 98 11 = (if p = len then 3 else 0 : Int32) := by rw [g98]; simp [tkF, upd]
      have e12 : mm 98 12 = vM (m 104) p k := by rw [g98]; simp [tkF, upd]
      have e13 : mm 98 13 = nI p := by rw [g98]; simp [tkF, upd]
      have eo : ∀ j, j ≠ 10 → j ≠ 11 → j ≠ 12 → j ≠ 13 → mm 98 j = m 98 j := by
        intro j a b c d
        rw [g98]
        simp [tkF, upd, a, b, c, d]
      refine e_aload_n dX4_nextToken_33 rfl ?_
      refine e_getI dX4_nextToken_34 lkX4_88 rfl rfl ?_
      rw [show mm 98 10 = nI (p + k) from e10]
      refine e_aload_n dX4_nextToken_37 rfl ?_
      refine e_getI dX4_nextToken_38 lkX4_84 rfl rfl ?_
      rw [show mm 98 8 = nI len from e8]
      refine e_icmp_ge 120 dX4_nextToken_41 (by decide) (fun h => absurd h (Int32.not_le.mpr ((j_lt (by omega) (by omega)).mpr (by omega)))) (fun c41 => ?_)
      refine e_aload_n dX4_nextToken_44 rfl ?_
      refine e_getR (o := 6) (b := 104) dX4_nextToken_45 lkX4_25 rfl rfl (by decide) rfl ?_
      refine e_aload_n dX4_nextToken_48 rfl ?_
      refine e_getI dX4_nextToken_49 lkX4_88 rfl rfl ?_
      rw [show mm 98 10 = nI (p + k) from e10]
      refine e_iald dX4_nextToken_52 rfl (p + k) rfl (by omega) (by decide) ?_
      rw [show mm 104 (p + k) = m 104 (p + k) from by rw [g104]]
      refine e_i2l dX4_nextToken_53 ?_
      refine e_ldc2 dX4_nextToken_54 kkX4_100 ?_
      refine e_ldc2 dX4_nextToken_57 kkX4_102 ?_
      refine e_callSi (n := 3) mX4_in [.long (Int32.toInt64 (m 104 (p + k))), .long (48), .long (57)] dX4_nextToken_60 ckX4_60 rfl (by decide +kernel) rfl rfl (Nat.le_of_ble_eq_true rfl) ⟨Nat.zero_le _, Nat.zero_le _⟩ (s_in32 (m 104 (p + k)) 48 57 mm) (fun v60 m16 hm16 => ?_)
      rcases hm16 with ⟨rfl, ⟨rfl, qd⟩ | ⟨rfl, qd⟩⟩
      · refine e_if_eq 120 dX4_nextToken_63 (by decide) (fun h => absurd h (by decide)) (fun c63 => ?_)
        refine e_aload_n dX4_nextToken_66 rfl ?_
        refine e_aload_n dX4_nextToken_67 rfl ?_
        refine e_getI dX4_nextToken_68 lkX4_97 rfl rfl ?_
        rw [show mm 98 12 = vM (m 104) p k from e12]
        refine e_sipush (v := 999) dX4_nextToken_71 rfl ?_
        refine e_icmp_le 84 dX4_nextToken_74 (by decide) (fun c74 => ?_) (fun c74 => ?_)
        · refine e_bipush (v := 10) dX4_nextToken_84 rfl ?_
          refine e_aload_n dX4_nextToken_86 rfl ?_
          refine e_getI dX4_nextToken_87 lkX4_97 rfl rfl ?_
          rw [show mm 98 12 = vM (m 104) p k from e12]
          refine e_imul dX4_nextToken_90 ?_
          refine e_aload_n dX4_nextToken_91 rfl ?_
          refine e_getR (o := 6) (b := 104) dX4_nextToken_92 lkX4_25 rfl rfl (by decide) rfl ?_
          refine e_aload_n dX4_nextToken_95 rfl ?_
          refine e_getI dX4_nextToken_96 lkX4_88 rfl rfl ?_
          rw [show mm 98 10 = nI (p + k) from e10]
          refine e_iald dX4_nextToken_99 rfl (p + k) rfl (by omega) (by decide) ?_
          rw [show mm 104 (p + k) = m 104 (p + k) from by rw [g104]]
          refine e_iadd dX4_nextToken_100 ?_
          refine e_bipush (v := 48) dX4_nextToken_101 rfl ?_
          refine e_isub dX4_nextToken_103 ?_
          refine e_putI dX4_nextToken_104 lkX4_97 rfl rfl fwX4_12 (Or.inl rfl) (fun mv hmv => ?_)
          refine e_aload_n dX4_nextToken_107 rfl ?_
          refine e_dup dX4_nextToken_108 rfl ?_
          refine e_getI dX4_nextToken_109 lkX4_88 rfl rfl ?_
          rw [show mv 98 10 = nI (p + k) from by rw [hmv, jup_s, upd_n _ _ (by decide)]; exact e10]
          refine e_iconst (v := 1) dX4_nextToken_112 rfl ?_
          refine e_iadd dX4_nextToken_113 ?_
          rw [show (nI (p + k)) + 1 = nI (p + k + 1) from nI_1 _]
          refine e_putI dX4_nextToken_114 lkX4_88 rfl rfl fwX4_10 (Or.inl rfl) (fun mw hmw => ?_)
          refine e_goto 33 dX4_nextToken_117 (by decide) ?_
          refine ih () _ ⟨?_, fun j hj => ?_, by omega⟩
          · rw [hmw, hmv, jup_s, jup_jup, hI1, jup_s, jup_jup]
            refine congrArg (jup m 98) (Eq.symm (tkF_eq ?_ ?_ ?_ ?_ ?_))
            · simp [upd, tkF]
            · simp [upd, tkF]
            · simp only [upd]
              show _ = (if 999 < vM (m 104) p k then vM (m 104) p k else 10 * vM (m 104) p k + m 104 (p + k) - 48)
              first | rw [if_pos (Int32.not_le.mp c74)] | rw [if_neg (Int32.not_lt.mpr c74)]
              simp
            · simp [upd]
              rfl
            · intro j a b c d
              simp [upd, tkF, a, b, c, d]
          · by_cases hjk : j = k
            · rw [hjk]; exact decide_eq_true qd
            · exact hI2 j (by omega)
        · refine e_aload_n dX4_nextToken_77 rfl ?_
          refine e_getI dX4_nextToken_78 lkX4_97 rfl rfl ?_
          rw [show mm 98 12 = vM (m 104) p k from e12]
          refine e_goto 104 dX4_nextToken_81 (by decide) ?_
          refine e_putI dX4_nextToken_104 lkX4_97 rfl rfl fwX4_12 (Or.inl rfl) (fun mv hmv => ?_)
          refine e_aload_n dX4_nextToken_107 rfl ?_
          refine e_dup dX4_nextToken_108 rfl ?_
          refine e_getI dX4_nextToken_109 lkX4_88 rfl rfl ?_
          rw [show mv 98 10 = nI (p + k) from by rw [hmv, jup_s, upd_n _ _ (by decide)]; exact e10]
          refine e_iconst (v := 1) dX4_nextToken_112 rfl ?_
          refine e_iadd dX4_nextToken_113 ?_
          rw [show (nI (p + k)) + 1 = nI (p + k + 1) from nI_1 _]
          refine e_putI dX4_nextToken_114 lkX4_88 rfl rfl fwX4_10 (Or.inl rfl) (fun mw hmw => ?_)
          refine e_goto 33 dX4_nextToken_117 (by decide) ?_
          refine ih () _ ⟨?_, fun j hj => ?_, by omega⟩
          · rw [hmw, hmv, jup_s, jup_jup, hI1, jup_s, jup_jup]
            refine congrArg (jup m 98) (Eq.symm (tkF_eq ?_ ?_ ?_ ?_ ?_))
            · simp [upd, tkF]
            · simp [upd, tkF]
            · simp only [upd]
              show _ = (if 999 < vM (m 104) p k then vM (m 104) p k else 10 * vM (m 104) p k + m 104 (p + k) - 48)
              first | rw [if_pos (Int32.not_le.mp c74)] | rw [if_neg (Int32.not_lt.mpr c74)]
              simp
            · simp [upd]
              rfl
            · intro j a b c d
              simp [upd, tkF, a, b, c, d]
          · by_cases hjk : j = k
            · rw [hjk]; exact decide_eq_true qd
            · exact hI2 j (by omega)
      · refine e_if_eq 120 dX4_nextToken_63 (by decide) (fun c63 => ?_) (fun h => absurd h (by decide))
        have hR : dgR (m 104) len p = k := dgR_is hI3 hI2 (by first | exact Or.inr (fun z => qd (of_decide_eq_true z)) | exact Or.inl (by omega))
        refine e_aload_n dX4_nextToken_120 rfl ?_
        refine e_getI dX4_nextToken_121 lkX4_88 rfl rfl ?_
        rw [show mm 98 10 = nI (p + k) from e10]
        refine e_aload_n dX4_nextToken_124 rfl ?_
        refine e_getI dX4_nextToken_125 lkX4_91 rfl rfl ?_
        rw [show mm 98 13 = nI p from e13]
        refine e_icmp_le 156 dX4_nextToken_128 (by decide) (fun c128 => ?_) (fun c128 => ?_)
        · have hk0 : k = 0 := by have := (j_le (by omega) (by omega)).mp c128; omega
          refine e_aload_n dX4_nextToken_156 rfl ?_
          refine e_getI dX4_nextToken_157 lkX4_94 rfl rfl ?_
          rw [show mm 98 11 = (if p = len then 3 else 0 : Int32) from e11]
          refine e_if_ne 230 dX4_nextToken_160 (by decide) (fun c160 => ?_) (fun c160 => ?_)
          · have hpe2 : p = len := by
              by_cases z : p = len
              · exact z
              · rw [if_neg z] at c160; exact absurd rfl c160
            exact e_vret dX4_nextToken_230 rfl (by rw [show mm = jup m 98 (mm 98) from by rw [hI1, jup_s]]; exact congrArg (jup m 98) (tkF_eq (by exact e13) (by rw [e11]; unfold tkT; rw [hR, hk0, if_pos hpe2, if_neg (Nat.lt_irrefl 0), if_pos hpe2]) (by rw [e12]; unfold tkW; rw [hR, hk0, if_neg (Nat.lt_irrefl 0), if_pos hpe2] <;> rfl) (by rw [e10]; unfold tkQ; rw [hR, hk0, if_neg (Nat.lt_irrefl 0), if_pos hpe2] <;> rfl) (by exact eo)))
          · have hpe2 : ¬ p = len := fun z => by rw [if_pos z] at c160; exact absurd c160 (by decide)
            have hpk : p + k = p := by omega
            refine e_aload_n dX4_nextToken_163 rfl ?_
            refine e_aload_n dX4_nextToken_164 rfl ?_
            refine e_getR (o := 6) (b := 104) dX4_nextToken_165 lkX4_25 rfl rfl (by decide) rfl ?_
            refine e_aload_n dX4_nextToken_168 rfl ?_
            refine e_getI dX4_nextToken_169 lkX4_88 rfl rfl ?_
            rw [show mm 98 10 = nI (p + k) from e10]
            refine e_iald dX4_nextToken_172 rfl (p + k) rfl (by omega) (by decide) ?_
            rw [show mm 104 (p + k) = m 104 p from by rw [g104, hpk]]
            refine e_putI dX4_nextToken_173 lkX4_97 rfl rfl fwX4_12 (Or.inl rfl) (fun my hmy => ?_)
            refine e_aload_n dX4_nextToken_176 rfl ?_
            refine e_aload_n dX4_nextToken_177 rfl ?_
            refine e_getI dX4_nextToken_178 lkX4_97 rfl rfl ?_
            rw [show my 98 12 = m 104 p from by rw [hmy, jup_s, upd_s]]
            refine e_i2l dX4_nextToken_181 ?_
            refine e_ldc2 dX4_nextToken_182 kkX4_104 ?_
            refine e_ldc2 dX4_nextToken_185 kkX4_106 ?_
            refine e_callSi (n := 3) mX4_in [.long (Int32.toInt64 (m 104 p)), .long (97), .long (122)] dX4_nextToken_188 ckX4_60 rfl (by decide +kernel) rfl rfl (Nat.le_of_ble_eq_true rfl) ⟨Nat.zero_le _, Nat.zero_le _⟩ (s_in32 (m 104 p) 97 122 my) (fun v188 m22 hm22 => ?_)
            rcases hm22 with ⟨rfl, ⟨rfl, ql⟩ | ⟨rfl, ql⟩⟩
            · refine e_if_ne 212 dX4_nextToken_191 (by decide) (fun c191 => ?_) (fun h => absurd h (by decide))
              refine e_iconst (v := 1) dX4_nextToken_212 rfl ?_
              refine e_goto 217 dX4_nextToken_213 (by decide) ?_
              refine e_putI dX4_nextToken_217 lkX4_94 rfl rfl fwX4_11 (Or.inl rfl) (fun mx hmx => ?_)
              refine e_aload_n dX4_nextToken_220 rfl ?_
              refine e_dup dX4_nextToken_221 rfl ?_
              refine e_getI dX4_nextToken_222 lkX4_88 rfl rfl ?_
              rw [show mx 98 10 = nI (p + k) from by rw [hmx, jup_s, upd_n _ _ (by decide), hmy, jup_s, upd_n _ _ (by decide)]; exact e10]
              refine e_iconst (v := 1) dX4_nextToken_225 rfl ?_
              refine e_iadd dX4_nextToken_226 ?_
              rw [show (nI (p + k)) + 1 = nI (p + k + 1) from nI_1 _]
              refine e_putI dX4_nextToken_227 lkX4_88 rfl rfl fwX4_10 (Or.inl rfl) (fun mz hmz => ?_)
              exact e_vret dX4_nextToken_230 rfl (by rw [show mz = jup m 98 (mz 98) from by rw [hmz, hmx, hmy, hI1]; simp only [jup_s, jup_jup]]; exact congrArg (jup m 98) (tkF_eq (by rw [hmz, jup_s, upd_n _ _ (by decide), hmx, jup_s, upd_n _ _ (by decide), hmy, jup_s, upd_n _ _ (by decide)]; exact e13) (by rw [hmz, jup_s, upd_n _ _ (by decide), hmx, jup_s, upd_s]; unfold tkT; rw [hR, hk0, if_neg (Nat.lt_irrefl 0), if_neg hpe2]; first | rw [if_pos (isLt_1 ql)] | rw [if_pos (isLt_2 c200)] | rw [if_pos (isLt_3 c209)] | rw [if_neg (isLt_f ql c200 c209)]) (by rw [hmz, jup_s, upd_n _ _ (by decide), hmx, jup_s, upd_n _ _ (by decide), hmy, jup_s, upd_s]; unfold tkW; rw [hR, hk0, if_neg (Nat.lt_irrefl 0), if_neg hpe2] <;> rfl) (by rw [hmz, jup_s, upd_s]; unfold tkQ; rw [hR, hk0, if_neg (Nat.lt_irrefl 0), if_neg hpe2] <;> rfl) (by intro j a b c d; rw [hmz, jup_s, upd_n _ _ a, hmx, jup_s, upd_n _ _ b, hmy, jup_s, upd_n _ _ c]; exact eo j a b c d)))
            · refine e_if_ne 212 dX4_nextToken_191 (by decide) (fun h => absurd h (by decide)) (fun c191 => ?_)
              refine e_aload_n dX4_nextToken_194 rfl ?_
              refine e_getI dX4_nextToken_195 lkX4_97 rfl rfl ?_
              rw [show my 98 12 = m 104 p from by rw [hmy, jup_s, upd_s]]
              refine e_bipush (v := 44) dX4_nextToken_198 rfl ?_
              refine e_icmp_eq 212 dX4_nextToken_200 (by decide) (fun c200 => ?_) (fun c200 => ?_)
              · refine e_iconst (v := 1) dX4_nextToken_212 rfl ?_
                refine e_goto 217 dX4_nextToken_213 (by decide) ?_
                refine e_putI dX4_nextToken_217 lkX4_94 rfl rfl fwX4_11 (Or.inl rfl) (fun mx hmx => ?_)
                refine e_aload_n dX4_nextToken_220 rfl ?_
                refine e_dup dX4_nextToken_221 rfl ?_
                refine e_getI dX4_nextToken_222 lkX4_88 rfl rfl ?_
                rw [show mx 98 10 = nI (p + k) from by rw [hmx, jup_s, upd_n _ _ (by decide), hmy, jup_s, upd_n _ _ (by decide)]; exact e10]
                refine e_iconst (v := 1) dX4_nextToken_225 rfl ?_
                refine e_iadd dX4_nextToken_226 ?_
                rw [show (nI (p + k)) + 1 = nI (p + k + 1) from nI_1 _]
                refine e_putI dX4_nextToken_227 lkX4_88 rfl rfl fwX4_10 (Or.inl rfl) (fun mz hmz => ?_)
                exact e_vret dX4_nextToken_230 rfl (by rw [show mz = jup m 98 (mz 98) from by rw [hmz, hmx, hmy, hI1]; simp only [jup_s, jup_jup]]; exact congrArg (jup m 98) (tkF_eq (by rw [hmz, jup_s, upd_n _ _ (by decide), hmx, jup_s, upd_n _ _ (by decide), hmy, jup_s, upd_n _ _ (by decide)]; exact e13) (by rw [hmz, jup_s, upd_n _ _ (by decide), hmx, jup_s, upd_s]; unfold tkT; rw [hR, hk0, if_neg (Nat.lt_irrefl 0), if_neg hpe2]; first | rw [if_pos (isLt_1 ql)] | rw [if_pos (isLt_2 c200)] | rw [if_pos (isLt_3 c209)] | rw [if_neg (isLt_f ql c200 c209)]) (by rw [hmz, jup_s, upd_n _ _ (by decide), hmx, jup_s, upd_n _ _ (by decide), hmy, jup_s, upd_s]; unfold tkW; rw [hR, hk0, if_neg (Nat.lt_irrefl 0), if_neg hpe2] <;> rfl) (by rw [hmz, jup_s, upd_s]; unfold tkQ; rw [hR, hk0, if_neg (Nat.lt_irrefl 0), if_neg hpe2] <;> rfl) (by intro j a b c d; rw [hmz, jup_s, upd_n _ _ a, hmx, jup_s, upd_n _ _ b, hmy, jup_s, upd_n _ _ c]; exact eo j a b c d)))
              · refine e_aload_n dX4_nextToken_203 rfl ?_
                refine e_getI dX4_nextToken_204 lkX4_97 rfl rfl ?_
                rw [show my 98 12 = m 104 p from by rw [hmy, jup_s, upd_s]]
                refine e_bipush (v := 59) dX4_nextToken_207 rfl ?_
                refine e_icmp_ne 216 dX4_nextToken_209 (by decide) (fun c209 => ?_) (fun c209 => ?_)
                · refine e_iconst (v := 0) dX4_nextToken_216 rfl ?_
                  refine e_putI dX4_nextToken_217 lkX4_94 rfl rfl fwX4_11 (Or.inl rfl) (fun mx hmx => ?_)
                  refine e_aload_n dX4_nextToken_220 rfl ?_
                  refine e_dup dX4_nextToken_221 rfl ?_
                  refine e_getI dX4_nextToken_222 lkX4_88 rfl rfl ?_
                  rw [show mx 98 10 = nI (p + k) from by rw [hmx, jup_s, upd_n _ _ (by decide), hmy, jup_s, upd_n _ _ (by decide)]; exact e10]
                  refine e_iconst (v := 1) dX4_nextToken_225 rfl ?_
                  refine e_iadd dX4_nextToken_226 ?_
                  rw [show (nI (p + k)) + 1 = nI (p + k + 1) from nI_1 _]
                  refine e_putI dX4_nextToken_227 lkX4_88 rfl rfl fwX4_10 (Or.inl rfl) (fun mz hmz => ?_)
                  exact e_vret dX4_nextToken_230 rfl (by rw [show mz = jup m 98 (mz 98) from by rw [hmz, hmx, hmy, hI1]; simp only [jup_s, jup_jup]]; exact congrArg (jup m 98) (tkF_eq (by rw [hmz, jup_s, upd_n _ _ (by decide), hmx, jup_s, upd_n _ _ (by decide), hmy, jup_s, upd_n _ _ (by decide)]; exact e13) (by rw [hmz, jup_s, upd_n _ _ (by decide), hmx, jup_s, upd_s]; unfold tkT; rw [hR, hk0, if_neg (Nat.lt_irrefl 0), if_neg hpe2]; first | rw [if_pos (isLt_1 ql)] | rw [if_pos (isLt_2 c200)] | rw [if_pos (isLt_3 c209)] | rw [if_neg (isLt_f ql c200 c209)]) (by rw [hmz, jup_s, upd_n _ _ (by decide), hmx, jup_s, upd_n _ _ (by decide), hmy, jup_s, upd_s]; unfold tkW; rw [hR, hk0, if_neg (Nat.lt_irrefl 0), if_neg hpe2] <;> rfl) (by rw [hmz, jup_s, upd_s]; unfold tkQ; rw [hR, hk0, if_neg (Nat.lt_irrefl 0), if_neg hpe2] <;> rfl) (by intro j a b c d; rw [hmz, jup_s, upd_n _ _ a, hmx, jup_s, upd_n _ _ b, hmy, jup_s, upd_n _ _ c]; exact eo j a b c d)))
                · refine e_iconst (v := 1) dX4_nextToken_212 rfl ?_
                  refine e_goto 217 dX4_nextToken_213 (by decide) ?_
                  refine e_putI dX4_nextToken_217 lkX4_94 rfl rfl fwX4_11 (Or.inl rfl) (fun mx hmx => ?_)
                  refine e_aload_n dX4_nextToken_220 rfl ?_
                  refine e_dup dX4_nextToken_221 rfl ?_
                  refine e_getI dX4_nextToken_222 lkX4_88 rfl rfl ?_
                  rw [show mx 98 10 = nI (p + k) from by rw [hmx, jup_s, upd_n _ _ (by decide), hmy, jup_s, upd_n _ _ (by decide)]; exact e10]
                  refine e_iconst (v := 1) dX4_nextToken_225 rfl ?_
                  refine e_iadd dX4_nextToken_226 ?_
                  rw [show (nI (p + k)) + 1 = nI (p + k + 1) from nI_1 _]
                  refine e_putI dX4_nextToken_227 lkX4_88 rfl rfl fwX4_10 (Or.inl rfl) (fun mz hmz => ?_)
                  exact e_vret dX4_nextToken_230 rfl (by rw [show mz = jup m 98 (mz 98) from by rw [hmz, hmx, hmy, hI1]; simp only [jup_s, jup_jup]]; exact congrArg (jup m 98) (tkF_eq (by rw [hmz, jup_s, upd_n _ _ (by decide), hmx, jup_s, upd_n _ _ (by decide), hmy, jup_s, upd_n _ _ (by decide)]; exact e13) (by rw [hmz, jup_s, upd_n _ _ (by decide), hmx, jup_s, upd_s]; unfold tkT; rw [hR, hk0, if_neg (Nat.lt_irrefl 0), if_neg hpe2]; first | rw [if_pos (isLt_1 ql)] | rw [if_pos (isLt_2 c200)] | rw [if_pos (isLt_3 c209)] | rw [if_neg (isLt_f ql c200 c209)]) (by rw [hmz, jup_s, upd_n _ _ (by decide), hmx, jup_s, upd_n _ _ (by decide), hmy, jup_s, upd_s]; unfold tkW; rw [hR, hk0, if_neg (Nat.lt_irrefl 0), if_neg hpe2] <;> rfl) (by rw [hmz, jup_s, upd_s]; unfold tkQ; rw [hR, hk0, if_neg (Nat.lt_irrefl 0), if_neg hpe2] <;> rfl) (by intro j a b c d; rw [hmz, jup_s, upd_n _ _ a, hmx, jup_s, upd_n _ _ b, hmy, jup_s, upd_n _ _ c]; exact eo j a b c d)))
        · have hk0 : 0 < k := by have := (j_lt (by omega) (by omega)).mp (Int32.not_le.mp c128); omega
          refine e_aload_n dX4_nextToken_131 rfl ?_
          refine e_aload_n dX4_nextToken_132 rfl ?_
          refine e_getI dX4_nextToken_133 lkX4_88 rfl rfl ?_
          rw [show mm 98 10 = nI (p + k) from e10]
          refine e_aload_n dX4_nextToken_136 rfl ?_
          refine e_getI dX4_nextToken_137 lkX4_91 rfl rfl ?_
          rw [show mm 98 13 = nI p from e13]
          refine e_isub dX4_nextToken_140 ?_
          rw [show (nI (p + k)) - (nI p) = nI k from (pk_sub (by omega)).trans (congrArg nI (by omega))]
          refine e_iconst (v := 3) dX4_nextToken_141 rfl ?_
          refine e_icmp_le 149 dX4_nextToken_142 (by decide) (fun c142 => ?_) (fun c142 => ?_)
          · have hk3 : ¬ 3 < k := by have := (j_le (a := k) (b := 3) (by omega) (by decide)).mp c142; omega
            refine e_iconst (v := 2) dX4_nextToken_149 rfl ?_
            refine e_putI dX4_nextToken_150 lkX4_94 rfl rfl fwX4_11 (Or.inl rfl) (fun mx hmx => ?_)
            refine e_goto 230 dX4_nextToken_153 (by decide) ?_
            exact e_vret dX4_nextToken_230 rfl (by rw [show mx = jup m 98 (mx 98) from by rw [hmx, hI1, jup_s, jup_s, jup_jup]]; exact congrArg (jup m 98) (tkF_eq (by rw [hmx, jup_s, upd_n _ _ (by decide)]; exact e13) (by rw [hmx, jup_s, upd_s]; unfold tkT; rw [hR, if_pos hk0]; first | rw [if_pos hk3] | rw [if_neg hk3]) (by rw [hmx, jup_s, upd_n _ _ (by decide), e12]; unfold tkW; rw [hR, if_pos hk0]) (by rw [hmx, jup_s, upd_n _ _ (by decide), e10]; unfold tkQ; rw [hR, if_pos hk0]) (by intro j a b c d; rw [hmx, jup_s, upd_n _ _ b]; exact eo j a b c d)))
          · have hk3 : 3 < k := (j_lt (a := 3) (b := k) (by decide) (by omega)).mp (Int32.not_le.mp c142)
            refine e_iconst (v := 0) dX4_nextToken_145 rfl ?_
            refine e_goto 150 dX4_nextToken_146 (by decide) ?_
            refine e_putI dX4_nextToken_150 lkX4_94 rfl rfl fwX4_11 (Or.inl rfl) (fun mx hmx => ?_)
            refine e_goto 230 dX4_nextToken_153 (by decide) ?_
            exact e_vret dX4_nextToken_230 rfl (by rw [show mx = jup m 98 (mx 98) from by rw [hmx, hI1, jup_s, jup_s, jup_jup]]; exact congrArg (jup m 98) (tkF_eq (by rw [hmx, jup_s, upd_n _ _ (by decide)]; exact e13) (by rw [hmx, jup_s, upd_s]; unfold tkT; rw [hR, if_pos hk0]; first | rw [if_pos hk3] | rw [if_neg hk3]) (by rw [hmx, jup_s, upd_n _ _ (by decide), e12]; unfold tkW; rw [hR, if_pos hk0]) (by rw [hmx, jup_s, upd_n _ _ (by decide), e10]; unfold tkQ; rw [hR, if_pos hk0]) (by intro j a b c d; rw [hmx, jup_s, upd_n _ _ b]; exact eo j a b c d)))
  · have hpe : p = len := (j_eq (by omega) (by omega)).mp c17
    refine e_iconst (v := 3) dX4_nextToken_20 rfl ?_
    refine e_goto 25 dX4_nextToken_21 (by decide) ?_
    refine e_putI dX4_nextToken_25 lkX4_94 rfl rfl fwX4_11 (Or.inl rfl) (fun nb hnb => ?_)
    refine e_aload_n dX4_nextToken_28 rfl ?_
    refine e_iconst (v := 0) dX4_nextToken_29 rfl ?_
    refine e_putI dX4_nextToken_30 lkX4_97 rfl rfl fwX4_12 (Or.inl rfl) (fun nc hnc => ?_)
    refine e_loopS (σ := Unit) 33 (len - p) (fun k _ => [some (.ref 98)]) (fun k _ mm => mm = jup m 98 (tkF (m 98) (nI p) (if p = len then 3 else 0 : Int32) (vM (m 104) p k) (nI (p + k))) ∧ (∀ j, j < k → isD (m 104 (p + j)) = true) ∧ p + k ≤ len) 0 () (Nat.zero_le _) rfl (⟨by rw [hnc, hnb, hna]; simp only [jup_s, jup_jup]; refine congrArg (jup m 98) (Eq.symm (tkF_eq ?_ ?_ ?_ ?_ ?_)) <;> first | (intro j a b c d; simp [upd, a, b, c, d]; done) | (simp [upd, vM, hpl, hpe]; done), fun j hj => absurd hj (Nat.not_lt_zero j), by omega⟩) ?_ ?_
    · intro _ mm hI
      show jE _ _ 33 [some (.ref 98)] [] mm
      obtain ⟨hI1, hI2, hI3⟩ := hI
      obtain ⟨k, hk⟩ : ∃ k, k = len - p := ⟨_, rfl⟩
      rw [← hk] at hI1 hI2 hI3
      have g98 : mm 98 = tkF (m 98) (nI p) (if p = len then 3 else 0 : Int32) (vM (m 104) p k) (nI (p + k)) := by rw [hI1, jup_s]
      have g104 : mm 104 = m 104 := by rw [hI1, jup_n _ _ (by decide)]
      have e8 : mm 98 8 = nI len := by rw [g98]; simp [tkF, upd, hb]
      have e10 : mm 98 10 = nI (p + k) := by rw [g98]; simp [tkF, upd]
      have e11 : mm 98 11 = (if p = len then 3 else 0 : Int32) := by rw [g98]; simp [tkF, upd]
      have e12 : mm 98 12 = vM (m 104) p k := by rw [g98]; simp [tkF, upd]
      have e13 : mm 98 13 = nI p := by rw [g98]; simp [tkF, upd]
      have eo : ∀ j, j ≠ 10 → j ≠ 11 → j ≠ 12 → j ≠ 13 → mm 98 j = m 98 j := by
        intro j a b c d
        rw [g98]
        simp [tkF, upd, a, b, c, d]
      refine e_aload_n dX4_nextToken_33 rfl ?_
      refine e_getI dX4_nextToken_34 lkX4_88 rfl rfl ?_
      rw [show mm 98 10 = nI (p + k) from e10]
      refine e_aload_n dX4_nextToken_37 rfl ?_
      refine e_getI dX4_nextToken_38 lkX4_84 rfl rfl ?_
      rw [show mm 98 8 = nI len from e8]
      refine e_icmp_ge 120 dX4_nextToken_41 (by decide) (fun c41 => ?_) (fun h => absurd ((j_le (by omega) (by omega)).mpr (by omega)) h)
      have hR : dgR (m 104) len p = k := dgR_is hI3 hI2 (by first | exact Or.inr (fun z => qd (of_decide_eq_true z)) | exact Or.inl (by omega))
      refine e_aload_n dX4_nextToken_120 rfl ?_
      refine e_getI dX4_nextToken_121 lkX4_88 rfl rfl ?_
      rw [show mm 98 10 = nI (p + k) from e10]
      refine e_aload_n dX4_nextToken_124 rfl ?_
      refine e_getI dX4_nextToken_125 lkX4_91 rfl rfl ?_
      rw [show mm 98 13 = nI p from e13]
      refine e_icmp_le 156 dX4_nextToken_128 (by decide) (fun c128 => ?_) (fun c128 => ?_)
      · have hk0 : k = 0 := by have := (j_le (by omega) (by omega)).mp c128; omega
        refine e_aload_n dX4_nextToken_156 rfl ?_
        refine e_getI dX4_nextToken_157 lkX4_94 rfl rfl ?_
        rw [show mm 98 11 = (if p = len then 3 else 0 : Int32) from e11]
        refine e_if_ne 230 dX4_nextToken_160 (by decide) (fun c160 => ?_) (fun c160 => ?_)
        · have hpe2 : p = len := by
            by_cases z : p = len
            · exact z
            · rw [if_neg z] at c160; exact absurd rfl c160
          exact e_vret dX4_nextToken_230 rfl (by rw [show mm = jup m 98 (mm 98) from by rw [hI1, jup_s]]; exact congrArg (jup m 98) (tkF_eq (by exact e13) (by rw [e11]; unfold tkT; rw [hR, hk0, if_pos hpe2, if_neg (Nat.lt_irrefl 0), if_pos hpe2]) (by rw [e12]; unfold tkW; rw [hR, hk0, if_neg (Nat.lt_irrefl 0), if_pos hpe2] <;> rfl) (by rw [e10]; unfold tkQ; rw [hR, hk0, if_neg (Nat.lt_irrefl 0), if_pos hpe2] <;> rfl) (by exact eo)))
        · have hpe2 : ¬ p = len := fun z => by rw [if_pos z] at c160; exact absurd c160 (by decide)
          have hpk : p + k = p := by omega
          refine e_aload_n dX4_nextToken_163 rfl ?_
          refine e_aload_n dX4_nextToken_164 rfl ?_
          refine e_getR (o := 6) (b := 104) dX4_nextToken_165 lkX4_25 rfl rfl (by decide) rfl ?_
          refine e_aload_n dX4_nextToken_168 rfl ?_
          refine e_getI dX4_nextToken_169 lkX4_88 rfl rfl ?_
          rw [show mm 98 10 = nI (p + k) from e10]
          refine e_iald dX4_nextToken_172 rfl (p + k) rfl (by omega) (by decide) ?_
          rw [show mm 104 (p + k) = m 104 p from by rw [g104, hpk]]
          refine e_putI dX4_nextToken_173 lkX4_97 rfl rfl fwX4_12 (Or.inl rfl) (fun my hmy => ?_)
          refine e_aload_n dX4_nextToken_176 rfl ?_
          refine e_aload_n dX4_nextToken_177 rfl ?_
          refine e_getI dX4_nextToken_178 lkX4_97 rfl rfl ?_
          rw [show my 98 12 = m 104 p from by rw [hmy, jup_s, upd_s]]
          refine e_i2l dX4_nextToken_181 ?_
          refine e_ldc2 dX4_nextToken_182 kkX4_104 ?_
          refine e_ldc2 dX4_nextToken_185 kkX4_106 ?_
          refine e_callSi (n := 3) mX4_in [.long (Int32.toInt64 (m 104 p)), .long (97), .long (122)] dX4_nextToken_188 ckX4_60 rfl (by decide +kernel) rfl rfl (Nat.le_of_ble_eq_true rfl) ⟨Nat.zero_le _, Nat.zero_le _⟩ (s_in32 (m 104 p) 97 122 my) (fun v188 m36 hm36 => ?_)
          rcases hm36 with ⟨rfl, ⟨rfl, ql⟩ | ⟨rfl, ql⟩⟩
          · refine e_if_ne 212 dX4_nextToken_191 (by decide) (fun c191 => ?_) (fun h => absurd h (by decide))
            refine e_iconst (v := 1) dX4_nextToken_212 rfl ?_
            refine e_goto 217 dX4_nextToken_213 (by decide) ?_
            refine e_putI dX4_nextToken_217 lkX4_94 rfl rfl fwX4_11 (Or.inl rfl) (fun mx hmx => ?_)
            refine e_aload_n dX4_nextToken_220 rfl ?_
            refine e_dup dX4_nextToken_221 rfl ?_
            refine e_getI dX4_nextToken_222 lkX4_88 rfl rfl ?_
            rw [show mx 98 10 = nI (p + k) from by rw [hmx, jup_s, upd_n _ _ (by decide), hmy, jup_s, upd_n _ _ (by decide)]; exact e10]
            refine e_iconst (v := 1) dX4_nextToken_225 rfl ?_
            refine e_iadd dX4_nextToken_226 ?_
            rw [show (nI (p + k)) + 1 = nI (p + k + 1) from nI_1 _]
            refine e_putI dX4_nextToken_227 lkX4_88 rfl rfl fwX4_10 (Or.inl rfl) (fun mz hmz => ?_)
            exact e_vret dX4_nextToken_230 rfl (by rw [show mz = jup m 98 (mz 98) from by rw [hmz, hmx, hmy, hI1]; simp only [jup_s, jup_jup]]; exact congrArg (jup m 98) (tkF_eq (by rw [hmz, jup_s, upd_n _ _ (by decide), hmx, jup_s, upd_n _ _ (by decide), hmy, jup_s, upd_n _ _ (by decide)]; exact e13) (by rw [hmz, jup_s, upd_n _ _ (by decide), hmx, jup_s, upd_s]; unfold tkT; rw [hR, hk0, if_neg (Nat.lt_irrefl 0), if_neg hpe2]; first | rw [if_pos (isLt_1 ql)] | rw [if_pos (isLt_2 c200)] | rw [if_pos (isLt_3 c209)] | rw [if_neg (isLt_f ql c200 c209)]) (by rw [hmz, jup_s, upd_n _ _ (by decide), hmx, jup_s, upd_n _ _ (by decide), hmy, jup_s, upd_s]; unfold tkW; rw [hR, hk0, if_neg (Nat.lt_irrefl 0), if_neg hpe2] <;> rfl) (by rw [hmz, jup_s, upd_s]; unfold tkQ; rw [hR, hk0, if_neg (Nat.lt_irrefl 0), if_neg hpe2] <;> rfl) (by intro j a b c d; rw [hmz, jup_s, upd_n _ _ a, hmx, jup_s, upd_n _ _ b, hmy, jup_s, upd_n _ _ c]; exact eo j a b c d)))
          · refine e_if_ne 212 dX4_nextToken_191 (by decide) (fun h => absurd h (by decide)) (fun c191 => ?_)
            refine e_aload_n dX4_nextToken_194 rfl ?_
            refine e_getI dX4_nextToken_195 lkX4_97 rfl rfl ?_
            rw [show my 98 12 = m 104 p from by rw [hmy, jup_s, upd_s]]
            refine e_bipush (v := 44) dX4_nextToken_198 rfl ?_
            refine e_icmp_eq 212 dX4_nextToken_200 (by decide) (fun c200 => ?_) (fun c200 => ?_)
            · refine e_iconst (v := 1) dX4_nextToken_212 rfl ?_
              refine e_goto 217 dX4_nextToken_213 (by decide) ?_
              refine e_putI dX4_nextToken_217 lkX4_94 rfl rfl fwX4_11 (Or.inl rfl) (fun mx hmx => ?_)
              refine e_aload_n dX4_nextToken_220 rfl ?_
              refine e_dup dX4_nextToken_221 rfl ?_
              refine e_getI dX4_nextToken_222 lkX4_88 rfl rfl ?_
              rw [show mx 98 10 = nI (p + k) from by rw [hmx, jup_s, upd_n _ _ (by decide), hmy, jup_s, upd_n _ _ (by decide)]; exact e10]
              refine e_iconst (v := 1) dX4_nextToken_225 rfl ?_
              refine e_iadd dX4_nextToken_226 ?_
              rw [show (nI (p + k)) + 1 = nI (p + k + 1) from nI_1 _]
              refine e_putI dX4_nextToken_227 lkX4_88 rfl rfl fwX4_10 (Or.inl rfl) (fun mz hmz => ?_)
              exact e_vret dX4_nextToken_230 rfl (by rw [show mz = jup m 98 (mz 98) from by rw [hmz, hmx, hmy, hI1]; simp only [jup_s, jup_jup]]; exact congrArg (jup m 98) (tkF_eq (by rw [hmz, jup_s, upd_n _ _ (by decide), hmx, jup_s, upd_n _ _ (by decide), hmy, jup_s, upd_n _ _ (by decide)]; exact e13) (by rw [hmz, jup_s, upd_n _ _ (by decide), hmx, jup_s, upd_s]; unfold tkT; rw [hR, hk0, if_neg (Nat.lt_irrefl 0), if_neg hpe2]; first | rw [if_pos (isLt_1 ql)] | rw [if_pos (isLt_2 c200)] | rw [if_pos (isLt_3 c209)] | rw [if_neg (isLt_f ql c200 c209)]) (by rw [hmz, jup_s, upd_n _ _ (by decide), hmx, jup_s, upd_n _ _ (by decide), hmy, jup_s, upd_s]; unfold tkW; rw [hR, hk0, if_neg (Nat.lt_irrefl 0), if_neg hpe2] <;> rfl) (by rw [hmz, jup_s, upd_s]; unfold tkQ; rw [hR, hk0, if_neg (Nat.lt_irrefl 0), if_neg hpe2] <;> rfl) (by intro j a b c d; rw [hmz, jup_s, upd_n _ _ a, hmx, jup_s, upd_n _ _ b, hmy, jup_s, upd_n _ _ c]; exact eo j a b c d)))
            · refine e_aload_n dX4_nextToken_203 rfl ?_
              refine e_getI dX4_nextToken_204 lkX4_97 rfl rfl ?_
              rw [show my 98 12 = m 104 p from by rw [hmy, jup_s, upd_s]]
              refine e_bipush (v := 59) dX4_nextToken_207 rfl ?_
              refine e_icmp_ne 216 dX4_nextToken_209 (by decide) (fun c209 => ?_) (fun c209 => ?_)
              · refine e_iconst (v := 0) dX4_nextToken_216 rfl ?_
                refine e_putI dX4_nextToken_217 lkX4_94 rfl rfl fwX4_11 (Or.inl rfl) (fun mx hmx => ?_)
                refine e_aload_n dX4_nextToken_220 rfl ?_
                refine e_dup dX4_nextToken_221 rfl ?_
                refine e_getI dX4_nextToken_222 lkX4_88 rfl rfl ?_
                rw [show mx 98 10 = nI (p + k) from by rw [hmx, jup_s, upd_n _ _ (by decide), hmy, jup_s, upd_n _ _ (by decide)]; exact e10]
                refine e_iconst (v := 1) dX4_nextToken_225 rfl ?_
                refine e_iadd dX4_nextToken_226 ?_
                rw [show (nI (p + k)) + 1 = nI (p + k + 1) from nI_1 _]
                refine e_putI dX4_nextToken_227 lkX4_88 rfl rfl fwX4_10 (Or.inl rfl) (fun mz hmz => ?_)
                exact e_vret dX4_nextToken_230 rfl (by rw [show mz = jup m 98 (mz 98) from by rw [hmz, hmx, hmy, hI1]; simp only [jup_s, jup_jup]]; exact congrArg (jup m 98) (tkF_eq (by rw [hmz, jup_s, upd_n _ _ (by decide), hmx, jup_s, upd_n _ _ (by decide), hmy, jup_s, upd_n _ _ (by decide)]; exact e13) (by rw [hmz, jup_s, upd_n _ _ (by decide), hmx, jup_s, upd_s]; unfold tkT; rw [hR, hk0, if_neg (Nat.lt_irrefl 0), if_neg hpe2]; first | rw [if_pos (isLt_1 ql)] | rw [if_pos (isLt_2 c200)] | rw [if_pos (isLt_3 c209)] | rw [if_neg (isLt_f ql c200 c209)]) (by rw [hmz, jup_s, upd_n _ _ (by decide), hmx, jup_s, upd_n _ _ (by decide), hmy, jup_s, upd_s]; unfold tkW; rw [hR, hk0, if_neg (Nat.lt_irrefl 0), if_neg hpe2] <;> rfl) (by rw [hmz, jup_s, upd_s]; unfold tkQ; rw [hR, hk0, if_neg (Nat.lt_irrefl 0), if_neg hpe2] <;> rfl) (by intro j a b c d; rw [hmz, jup_s, upd_n _ _ a, hmx, jup_s, upd_n _ _ b, hmy, jup_s, upd_n _ _ c]; exact eo j a b c d)))
              · refine e_iconst (v := 1) dX4_nextToken_212 rfl ?_
                refine e_goto 217 dX4_nextToken_213 (by decide) ?_
                refine e_putI dX4_nextToken_217 lkX4_94 rfl rfl fwX4_11 (Or.inl rfl) (fun mx hmx => ?_)
                refine e_aload_n dX4_nextToken_220 rfl ?_
                refine e_dup dX4_nextToken_221 rfl ?_
                refine e_getI dX4_nextToken_222 lkX4_88 rfl rfl ?_
                rw [show mx 98 10 = nI (p + k) from by rw [hmx, jup_s, upd_n _ _ (by decide), hmy, jup_s, upd_n _ _ (by decide)]; exact e10]
                refine e_iconst (v := 1) dX4_nextToken_225 rfl ?_
                refine e_iadd dX4_nextToken_226 ?_
                rw [show (nI (p + k)) + 1 = nI (p + k + 1) from nI_1 _]
                refine e_putI dX4_nextToken_227 lkX4_88 rfl rfl fwX4_10 (Or.inl rfl) (fun mz hmz => ?_)
                exact e_vret dX4_nextToken_230 rfl (by rw [show mz = jup m 98 (mz 98) from by rw [hmz, hmx, hmy, hI1]; simp only [jup_s, jup_jup]]; exact congrArg (jup m 98) (tkF_eq (by rw [hmz, jup_s, upd_n _ _ (by decide), hmx, jup_s, upd_n _ _ (by decide), hmy, jup_s, upd_n _ _ (by decide)]; exact e13) (by rw [hmz, jup_s, upd_n _ _ (by decide), hmx, jup_s, upd_s]; unfold tkT; rw [hR, hk0, if_neg (Nat.lt_irrefl 0), if_neg hpe2]; first | rw [if_pos (isLt_1 ql)] | rw [if_pos (isLt_2 c200)] | rw [if_pos (isLt_3 c209)] | rw [if_neg (isLt_f ql c200 c209)]) (by rw [hmz, jup_s, upd_n _ _ (by decide), hmx, jup_s, upd_n _ _ (by decide), hmy, jup_s, upd_s]; unfold tkW; rw [hR, hk0, if_neg (Nat.lt_irrefl 0), if_neg hpe2] <;> rfl) (by rw [hmz, jup_s, upd_s]; unfold tkQ; rw [hR, hk0, if_neg (Nat.lt_irrefl 0), if_neg hpe2] <;> rfl) (by intro j a b c d; rw [hmz, jup_s, upd_n _ _ a, hmx, jup_s, upd_n _ _ b, hmy, jup_s, upd_n _ _ c]; exact eo j a b c d)))
      · have hk0 : 0 < k := by have := (j_lt (by omega) (by omega)).mp (Int32.not_le.mp c128); omega
        refine e_aload_n dX4_nextToken_131 rfl ?_
        refine e_aload_n dX4_nextToken_132 rfl ?_
        refine e_getI dX4_nextToken_133 lkX4_88 rfl rfl ?_
        rw [show mm 98 10 = nI (p + k) from e10]
        refine e_aload_n dX4_nextToken_136 rfl ?_
        refine e_getI dX4_nextToken_137 lkX4_91 rfl rfl ?_
        rw [show mm 98 13 = nI p from e13]
        refine e_isub dX4_nextToken_140 ?_
        rw [show (nI (p + k)) - (nI p) = nI k from (pk_sub (by omega)).trans (congrArg nI (by omega))]
        refine e_iconst (v := 3) dX4_nextToken_141 rfl ?_
        refine e_icmp_le 149 dX4_nextToken_142 (by decide) (fun c142 => ?_) (fun c142 => ?_)
        · have hk3 : ¬ 3 < k := by have := (j_le (a := k) (b := 3) (by omega) (by decide)).mp c142; omega
          refine e_iconst (v := 2) dX4_nextToken_149 rfl ?_
          refine e_putI dX4_nextToken_150 lkX4_94 rfl rfl fwX4_11 (Or.inl rfl) (fun mx hmx => ?_)
          refine e_goto 230 dX4_nextToken_153 (by decide) ?_
          exact e_vret dX4_nextToken_230 rfl (by rw [show mx = jup m 98 (mx 98) from by rw [hmx, hI1, jup_s, jup_s, jup_jup]]; exact congrArg (jup m 98) (tkF_eq (by rw [hmx, jup_s, upd_n _ _ (by decide)]; exact e13) (by rw [hmx, jup_s, upd_s]; unfold tkT; rw [hR, if_pos hk0]; first | rw [if_pos hk3] | rw [if_neg hk3]) (by rw [hmx, jup_s, upd_n _ _ (by decide), e12]; unfold tkW; rw [hR, if_pos hk0]) (by rw [hmx, jup_s, upd_n _ _ (by decide), e10]; unfold tkQ; rw [hR, if_pos hk0]) (by intro j a b c d; rw [hmx, jup_s, upd_n _ _ b]; exact eo j a b c d)))
        · have hk3 : 3 < k := (j_lt (a := 3) (b := k) (by decide) (by omega)).mp (Int32.not_le.mp c142)
          refine e_iconst (v := 0) dX4_nextToken_145 rfl ?_
          refine e_goto 150 dX4_nextToken_146 (by decide) ?_
          refine e_putI dX4_nextToken_150 lkX4_94 rfl rfl fwX4_11 (Or.inl rfl) (fun mx hmx => ?_)
          refine e_goto 230 dX4_nextToken_153 (by decide) ?_
          exact e_vret dX4_nextToken_230 rfl (by rw [show mx = jup m 98 (mx 98) from by rw [hmx, hI1, jup_s, jup_s, jup_jup]]; exact congrArg (jup m 98) (tkF_eq (by rw [hmx, jup_s, upd_n _ _ (by decide)]; exact e13) (by rw [hmx, jup_s, upd_s]; unfold tkT; rw [hR, if_pos hk0]; first | rw [if_pos hk3] | rw [if_neg hk3]) (by rw [hmx, jup_s, upd_n _ _ (by decide), e12]; unfold tkW; rw [hR, if_pos hk0]) (by rw [hmx, jup_s, upd_n _ _ (by decide), e10]; unfold tkQ; rw [hR, if_pos hk0]) (by intro j a b c d; rw [hmx, jup_s, upd_n _ _ b]; exact eo j a b c d)))
    · intro k hk _ mm hI ih
      show jE _ _ 33 [some (.ref 98)] [] mm
      obtain ⟨hI1, hI2, hI3⟩ := hI
      have g98 : mm 98 = tkF (m 98) (nI p) (if p = len then 3 else 0 : Int32) (vM (m 104) p k) (nI (p + k)) := by rw [hI1, jup_s]
      have g104 : mm 104 = m 104 := by rw [hI1, jup_n _ _ (by decide)]
      have e8 : mm 98 8 = nI len := by rw [g98]; simp [tkF, upd, hb]
      have e10 : mm 98 10 = nI (p + k) := by rw [g98]; simp [tkF, upd]
      have e11 : mm 98 11 = (if p = len then 3 else 0 : Int32) := by rw [g98]; simp [tkF, upd]
      have e12 : mm 98 12 = vM (m 104) p k := by rw [g98]; simp [tkF, upd]
      have e13 : mm 98 13 = nI p := by rw [g98]; simp [tkF, upd]
      have eo : ∀ j, j ≠ 10 → j ≠ 11 → j ≠ 12 → j ≠ 13 → mm 98 j = m 98 j := by
        intro j a b c d
        rw [g98]
        simp [tkF, upd, a, b, c, d]
      refine e_aload_n dX4_nextToken_33 rfl ?_
      refine e_getI dX4_nextToken_34 lkX4_88 rfl rfl ?_
      rw [show mm 98 10 = nI (p + k) from e10]
      refine e_aload_n dX4_nextToken_37 rfl ?_
      refine e_getI dX4_nextToken_38 lkX4_84 rfl rfl ?_
      rw [show mm 98 8 = nI len from e8]
      refine e_icmp_ge 120 dX4_nextToken_41 (by decide) (fun h => absurd h (Int32.not_le.mpr ((j_lt (by omega) (by omega)).mpr (by omega)))) (fun c41 => ?_)
      refine e_aload_n dX4_nextToken_44 rfl ?_
      refine e_getR (o := 6) (b := 104) dX4_nextToken_45 lkX4_25 rfl rfl (by decide) rfl ?_
      refine e_aload_n dX4_nextToken_48 rfl ?_
      refine e_getI dX4_nextToken_49 lkX4_88 rfl rfl ?_
      rw [show mm 98 10 = nI (p + k) from e10]
      refine e_iald dX4_nextToken_52 rfl (p + k) rfl (by omega) (by decide) ?_
      rw [show mm 104 (p + k) = m 104 (p + k) from by rw [g104]]
      refine e_i2l dX4_nextToken_53 ?_
      refine e_ldc2 dX4_nextToken_54 kkX4_100 ?_
      refine e_ldc2 dX4_nextToken_57 kkX4_102 ?_
      refine e_callSi (n := 3) mX4_in [.long (Int32.toInt64 (m 104 (p + k))), .long (48), .long (57)] dX4_nextToken_60 ckX4_60 rfl (by decide +kernel) rfl rfl (Nat.le_of_ble_eq_true rfl) ⟨Nat.zero_le _, Nat.zero_le _⟩ (s_in32 (m 104 (p + k)) 48 57 mm) (fun v60 m47 hm47 => ?_)
      rcases hm47 with ⟨rfl, ⟨rfl, qd⟩ | ⟨rfl, qd⟩⟩
      · refine e_if_eq 120 dX4_nextToken_63 (by decide) (fun h => absurd h (by decide)) (fun c63 => ?_)
        refine e_aload_n dX4_nextToken_66 rfl ?_
        refine e_aload_n dX4_nextToken_67 rfl ?_
        refine e_getI dX4_nextToken_68 lkX4_97 rfl rfl ?_
        rw [show mm 98 12 = vM (m 104) p k from e12]
        refine e_sipush (v := 999) dX4_nextToken_71 rfl ?_
        refine e_icmp_le 84 dX4_nextToken_74 (by decide) (fun c74 => ?_) (fun c74 => ?_)
        · refine e_bipush (v := 10) dX4_nextToken_84 rfl ?_
          refine e_aload_n dX4_nextToken_86 rfl ?_
          refine e_getI dX4_nextToken_87 lkX4_97 rfl rfl ?_
          rw [show mm 98 12 = vM (m 104) p k from e12]
          refine e_imul dX4_nextToken_90 ?_
          refine e_aload_n dX4_nextToken_91 rfl ?_
          refine e_getR (o := 6) (b := 104) dX4_nextToken_92 lkX4_25 rfl rfl (by decide) rfl ?_
          refine e_aload_n dX4_nextToken_95 rfl ?_
          refine e_getI dX4_nextToken_96 lkX4_88 rfl rfl ?_
          rw [show mm 98 10 = nI (p + k) from e10]
          refine e_iald dX4_nextToken_99 rfl (p + k) rfl (by omega) (by decide) ?_
          rw [show mm 104 (p + k) = m 104 (p + k) from by rw [g104]]
          refine e_iadd dX4_nextToken_100 ?_
          refine e_bipush (v := 48) dX4_nextToken_101 rfl ?_
          refine e_isub dX4_nextToken_103 ?_
          refine e_putI dX4_nextToken_104 lkX4_97 rfl rfl fwX4_12 (Or.inl rfl) (fun mv hmv => ?_)
          refine e_aload_n dX4_nextToken_107 rfl ?_
          refine e_dup dX4_nextToken_108 rfl ?_
          refine e_getI dX4_nextToken_109 lkX4_88 rfl rfl ?_
          rw [show mv 98 10 = nI (p + k) from by rw [hmv, jup_s, upd_n _ _ (by decide)]; exact e10]
          refine e_iconst (v := 1) dX4_nextToken_112 rfl ?_
          refine e_iadd dX4_nextToken_113 ?_
          rw [show (nI (p + k)) + 1 = nI (p + k + 1) from nI_1 _]
          refine e_putI dX4_nextToken_114 lkX4_88 rfl rfl fwX4_10 (Or.inl rfl) (fun mw hmw => ?_)
          refine e_goto 33 dX4_nextToken_117 (by decide) ?_
          refine ih () _ ⟨?_, fun j hj => ?_, by omega⟩
          · rw [hmw, hmv, jup_s, jup_jup, hI1, jup_s, jup_jup]
            refine congrArg (jup m 98) (Eq.symm (tkF_eq ?_ ?_ ?_ ?_ ?_))
            · simp [upd, tkF]
            · simp [upd, tkF]
            · simp only [upd]
              show _ = (if 999 < vM (m 104) p k then vM (m 104) p k else 10 * vM (m 104) p k + m 104 (p + k) - 48)
              first | rw [if_pos (Int32.not_le.mp c74)] | rw [if_neg (Int32.not_lt.mpr c74)]
              simp
            · simp [upd]
              rfl
            · intro j a b c d
              simp [upd, tkF, a, b, c, d]
          · by_cases hjk : j = k
            · rw [hjk]; exact decide_eq_true qd
            · exact hI2 j (by omega)
        · refine e_aload_n dX4_nextToken_77 rfl ?_
          refine e_getI dX4_nextToken_78 lkX4_97 rfl rfl ?_
          rw [show mm 98 12 = vM (m 104) p k from e12]
          refine e_goto 104 dX4_nextToken_81 (by decide) ?_
          refine e_putI dX4_nextToken_104 lkX4_97 rfl rfl fwX4_12 (Or.inl rfl) (fun mv hmv => ?_)
          refine e_aload_n dX4_nextToken_107 rfl ?_
          refine e_dup dX4_nextToken_108 rfl ?_
          refine e_getI dX4_nextToken_109 lkX4_88 rfl rfl ?_
          rw [show mv 98 10 = nI (p + k) from by rw [hmv, jup_s, upd_n _ _ (by decide)]; exact e10]
          refine e_iconst (v := 1) dX4_nextToken_112 rfl ?_
          refine e_iadd dX4_nextToken_113 ?_
          rw [show (nI (p + k)) + 1 = nI (p + k + 1) from nI_1 _]
          refine e_putI dX4_nextToken_114 lkX4_88 rfl rfl fwX4_10 (Or.inl rfl) (fun mw hmw => ?_)
          refine e_goto 33 dX4_nextToken_117 (by decide) ?_
          refine ih () _ ⟨?_, fun j hj => ?_, by omega⟩
          · rw [hmw, hmv, jup_s, jup_jup, hI1, jup_s, jup_jup]
            refine congrArg (jup m 98) (Eq.symm (tkF_eq ?_ ?_ ?_ ?_ ?_))
            · simp [upd, tkF]
            · simp [upd, tkF]
            · simp only [upd]
              show _ = (if 999 < vM (m 104) p k then vM (m 104) p k else 10 * vM (m 104) p k + m 104 (p + k) - 48)
              first | rw [if_pos (Int32.not_le.mp c74)] | rw [if_neg (Int32.not_lt.mpr c74)]
              simp
            · simp [upd]
              rfl
            · intro j a b c d
              simp [upd, tkF, a, b, c, d]
          · by_cases hjk : j = k
            · rw [hjk]; exact decide_eq_true qd
            · exact hI2 j (by omega)
      · refine e_if_eq 120 dX4_nextToken_63 (by decide) (fun c63 => ?_) (fun h => absurd h (by decide))
        have hR : dgR (m 104) len p = k := dgR_is hI3 hI2 (by first | exact Or.inr (fun z => qd (of_decide_eq_true z)) | exact Or.inl (by omega))
        refine e_aload_n dX4_nextToken_120 rfl ?_
        refine e_getI dX4_nextToken_121 lkX4_88 rfl rfl ?_
        rw [show mm 98 10 = nI (p + k) from e10]
        refine e_aload_n dX4_nextToken_124 rfl ?_
        refine e_getI dX4_nextToken_125 lkX4_91 rfl rfl ?_
        rw [show mm 98 13 = nI p from e13]
        refine e_icmp_le 156 dX4_nextToken_128 (by decide) (fun c128 => ?_) (fun c128 => ?_)
        · have hk0 : k = 0 := by have := (j_le (by omega) (by omega)).mp c128; omega
          refine e_aload_n dX4_nextToken_156 rfl ?_
          refine e_getI dX4_nextToken_157 lkX4_94 rfl rfl ?_
          rw [show mm 98 11 = (if p = len then 3 else 0 : Int32) from e11]
          refine e_if_ne 230 dX4_nextToken_160 (by decide) (fun c160 => ?_) (fun c160 => ?_)
          · have hpe2 : p = len := by
              by_cases z : p = len
              · exact z
              · rw [if_neg z] at c160; exact absurd rfl c160
            exact e_vret dX4_nextToken_230 rfl (by rw [show mm = jup m 98 (mm 98) from by rw [hI1, jup_s]]; exact congrArg (jup m 98) (tkF_eq (by exact e13) (by rw [e11]; unfold tkT; rw [hR, hk0, if_pos hpe2, if_neg (Nat.lt_irrefl 0), if_pos hpe2]) (by rw [e12]; unfold tkW; rw [hR, hk0, if_neg (Nat.lt_irrefl 0), if_pos hpe2] <;> rfl) (by rw [e10]; unfold tkQ; rw [hR, hk0, if_neg (Nat.lt_irrefl 0), if_pos hpe2] <;> rfl) (by exact eo)))
          · have hpe2 : ¬ p = len := fun z => by rw [if_pos z] at c160; exact absurd c160 (by decide)
            have hpk : p + k = p := by omega
            refine e_aload_n dX4_nextToken_163 rfl ?_
            refine e_aload_n dX4_nextToken_164 rfl ?_
            refine e_getR (o := 6) (b := 104) dX4_nextToken_165 lkX4_25 rfl rfl (by decide) rfl ?_
            refine e_aload_n dX4_nextToken_168 rfl ?_
            refine e_getI dX4_nextToken_169 lkX4_88 rfl rfl ?_
            rw [show mm 98 10 = nI (p + k) from e10]
            refine e_iald dX4_nextToken_172 rfl (p + k) rfl (by omega) (by decide) ?_
            rw [show mm 104 (p + k) = m 104 p from by rw [g104, hpk]]
            refine e_putI dX4_nextToken_173 lkX4_97 rfl rfl fwX4_12 (Or.inl rfl) (fun my hmy => ?_)
            refine e_aload_n dX4_nextToken_176 rfl ?_
            refine e_aload_n dX4_nextToken_177 rfl ?_
            refine e_getI dX4_nextToken_178 lkX4_97 rfl rfl ?_
            rw [show my 98 12 = m 104 p from by rw [hmy, jup_s, upd_s]]
            refine e_i2l dX4_nextToken_181 ?_
            refine e_ldc2 dX4_nextToken_182 kkX4_104 ?_
            refine e_ldc2 dX4_nextToken_185 kkX4_106 ?_
            refine e_callSi (n := 3) mX4_in [.long (Int32.toInt64 (m 104 p)), .long (97), .long (122)] dX4_nextToken_188 ckX4_60 rfl (by decide +kernel) rfl rfl (Nat.le_of_ble_eq_true rfl) ⟨Nat.zero_le _, Nat.zero_le _⟩ (s_in32 (m 104 p) 97 122 my) (fun v188 m53 hm53 => ?_)
            rcases hm53 with ⟨rfl, ⟨rfl, ql⟩ | ⟨rfl, ql⟩⟩
            · refine e_if_ne 212 dX4_nextToken_191 (by decide) (fun c191 => ?_) (fun h => absurd h (by decide))
              refine e_iconst (v := 1) dX4_nextToken_212 rfl ?_
              refine e_goto 217 dX4_nextToken_213 (by decide) ?_
              refine e_putI dX4_nextToken_217 lkX4_94 rfl rfl fwX4_11 (Or.inl rfl) (fun mx hmx => ?_)
              refine e_aload_n dX4_nextToken_220 rfl ?_
              refine e_dup dX4_nextToken_221 rfl ?_
              refine e_getI dX4_nextToken_222 lkX4_88 rfl rfl ?_
              rw [show mx 98 10 = nI (p + k) from by rw [hmx, jup_s, upd_n _ _ (by decide), hmy, jup_s, upd_n _ _ (by decide)]; exact e10]
              refine e_iconst (v := 1) dX4_nextToken_225 rfl ?_
              refine e_iadd dX4_nextToken_226 ?_
              rw [show (nI (p + k)) + 1 = nI (p + k + 1) from nI_1 _]
              refine e_putI dX4_nextToken_227 lkX4_88 rfl rfl fwX4_10 (Or.inl rfl) (fun mz hmz => ?_)
              exact e_vret dX4_nextToken_230 rfl (by rw [show mz = jup m 98 (mz 98) from by rw [hmz, hmx, hmy, hI1]; simp only [jup_s, jup_jup]]; exact congrArg (jup m 98) (tkF_eq (by rw [hmz, jup_s, upd_n _ _ (by decide), hmx, jup_s, upd_n _ _ (by decide), hmy, jup_s, upd_n _ _ (by decide)]; exact e13) (by rw [hmz, jup_s, upd_n _ _ (by decide), hmx, jup_s, upd_s]; unfold tkT; rw [hR, hk0, if_neg (Nat.lt_irrefl 0), if_neg hpe2]; first | rw [if_pos (isLt_1 ql)] | rw [if_pos (isLt_2 c200)] | rw [if_pos (isLt_3 c209)] | rw [if_neg (isLt_f ql c200 c209)]) (by rw [hmz, jup_s, upd_n _ _ (by decide), hmx, jup_s, upd_n _ _ (by decide), hmy, jup_s, upd_s]; unfold tkW; rw [hR, hk0, if_neg (Nat.lt_irrefl 0), if_neg hpe2] <;> rfl) (by rw [hmz, jup_s, upd_s]; unfold tkQ; rw [hR, hk0, if_neg (Nat.lt_irrefl 0), if_neg hpe2] <;> rfl) (by intro j a b c d; rw [hmz, jup_s, upd_n _ _ a, hmx, jup_s, upd_n _ _ b, hmy, jup_s, upd_n _ _ c]; exact eo j a b c d)))
            · refine e_if_ne 212 dX4_nextToken_191 (by decide) (fun h => absurd h (by decide)) (fun c191 => ?_)
              refine e_aload_n dX4_nextToken_194 rfl ?_
              refine e_getI dX4_nextToken_195 lkX4_97 rfl rfl ?_
              rw [show my 98 12 = m 104 p from by rw [hmy, jup_s, upd_s]]
              refine e_bipush (v := 44) dX4_nextToken_198 rfl ?_
              refine e_icmp_eq 212 dX4_nextToken_200 (by decide) (fun c200 => ?_) (fun c200 => ?_)
              · refine e_iconst (v := 1) dX4_nextToken_212 rfl ?_
                refine e_goto 217 dX4_nextToken_213 (by decide) ?_
                refine e_putI dX4_nextToken_217 lkX4_94 rfl rfl fwX4_11 (Or.inl rfl) (fun mx hmx => ?_)
                refine e_aload_n dX4_nextToken_220 rfl ?_
                refine e_dup dX4_nextToken_221 rfl ?_
                refine e_getI dX4_nextToken_222 lkX4_88 rfl rfl ?_
                rw [show mx 98 10 = nI (p + k) from by rw [hmx, jup_s, upd_n _ _ (by decide), hmy, jup_s, upd_n _ _ (by decide)]; exact e10]
                refine e_iconst (v := 1) dX4_nextToken_225 rfl ?_
                refine e_iadd dX4_nextToken_226 ?_
                rw [show (nI (p + k)) + 1 = nI (p + k + 1) from nI_1 _]
                refine e_putI dX4_nextToken_227 lkX4_88 rfl rfl fwX4_10 (Or.inl rfl) (fun mz hmz => ?_)
                exact e_vret dX4_nextToken_230 rfl (by rw [show mz = jup m 98 (mz 98) from by rw [hmz, hmx, hmy, hI1]; simp only [jup_s, jup_jup]]; exact congrArg (jup m 98) (tkF_eq (by rw [hmz, jup_s, upd_n _ _ (by decide), hmx, jup_s, upd_n _ _ (by decide), hmy, jup_s, upd_n _ _ (by decide)]; exact e13) (by rw [hmz, jup_s, upd_n _ _ (by decide), hmx, jup_s, upd_s]; unfold tkT; rw [hR, hk0, if_neg (Nat.lt_irrefl 0), if_neg hpe2]; first | rw [if_pos (isLt_1 ql)] | rw [if_pos (isLt_2 c200)] | rw [if_pos (isLt_3 c209)] | rw [if_neg (isLt_f ql c200 c209)]) (by rw [hmz, jup_s, upd_n _ _ (by decide), hmx, jup_s, upd_n _ _ (by decide), hmy, jup_s, upd_s]; unfold tkW; rw [hR, hk0, if_neg (Nat.lt_irrefl 0), if_neg hpe2] <;> rfl) (by rw [hmz, jup_s, upd_s]; unfold tkQ; rw [hR, hk0, if_neg (Nat.lt_irrefl 0), if_neg hpe2] <;> rfl) (by intro j a b c d; rw [hmz, jup_s, upd_n _ _ a, hmx, jup_s, upd_n _ _ b, hmy, jup_s, upd_n _ _ c]; exact eo j a b c d)))
              · refine e_aload_n dX4_nextToken_203 rfl ?_
                refine e_getI dX4_nextToken_204 lkX4_97 rfl rfl ?_
                rw [show my 98 12 = m 104 p from by rw [hmy, jup_s, upd_s]]
                refine e_bipush (v := 59) dX4_nextToken_207 rfl ?_
                refine e_icmp_ne 216 dX4_nextToken_209 (by decide) (fun c209 => ?_) (fun c209 => ?_)
                · refine e_iconst (v := 0) dX4_nextToken_216 rfl ?_
                  refine e_putI dX4_nextToken_217 lkX4_94 rfl rfl fwX4_11 (Or.inl rfl) (fun mx hmx => ?_)
                  refine e_aload_n dX4_nextToken_220 rfl ?_
                  refine e_dup dX4_nextToken_221 rfl ?_
                  refine e_getI dX4_nextToken_222 lkX4_88 rfl rfl ?_
                  rw [show mx 98 10 = nI (p + k) from by rw [hmx, jup_s, upd_n _ _ (by decide), hmy, jup_s, upd_n _ _ (by decide)]; exact e10]
                  refine e_iconst (v := 1) dX4_nextToken_225 rfl ?_
                  refine e_iadd dX4_nextToken_226 ?_
                  rw [show (nI (p + k)) + 1 = nI (p + k + 1) from nI_1 _]
                  refine e_putI dX4_nextToken_227 lkX4_88 rfl rfl fwX4_10 (Or.inl rfl) (fun mz hmz => ?_)
                  exact e_vret dX4_nextToken_230 rfl (by rw [show mz = jup m 98 (mz 98) from by rw [hmz, hmx, hmy, hI1]; simp only [jup_s, jup_jup]]; exact congrArg (jup m 98) (tkF_eq (by rw [hmz, jup_s, upd_n _ _ (by decide), hmx, jup_s, upd_n _ _ (by decide), hmy, jup_s, upd_n _ _ (by decide)]; exact e13) (by rw [hmz, jup_s, upd_n _ _ (by decide), hmx, jup_s, upd_s]; unfold tkT; rw [hR, hk0, if_neg (Nat.lt_irrefl 0), if_neg hpe2]; first | rw [if_pos (isLt_1 ql)] | rw [if_pos (isLt_2 c200)] | rw [if_pos (isLt_3 c209)] | rw [if_neg (isLt_f ql c200 c209)]) (by rw [hmz, jup_s, upd_n _ _ (by decide), hmx, jup_s, upd_n _ _ (by decide), hmy, jup_s, upd_s]; unfold tkW; rw [hR, hk0, if_neg (Nat.lt_irrefl 0), if_neg hpe2] <;> rfl) (by rw [hmz, jup_s, upd_s]; unfold tkQ; rw [hR, hk0, if_neg (Nat.lt_irrefl 0), if_neg hpe2] <;> rfl) (by intro j a b c d; rw [hmz, jup_s, upd_n _ _ a, hmx, jup_s, upd_n _ _ b, hmy, jup_s, upd_n _ _ c]; exact eo j a b c d)))
                · refine e_iconst (v := 1) dX4_nextToken_212 rfl ?_
                  refine e_goto 217 dX4_nextToken_213 (by decide) ?_
                  refine e_putI dX4_nextToken_217 lkX4_94 rfl rfl fwX4_11 (Or.inl rfl) (fun mx hmx => ?_)
                  refine e_aload_n dX4_nextToken_220 rfl ?_
                  refine e_dup dX4_nextToken_221 rfl ?_
                  refine e_getI dX4_nextToken_222 lkX4_88 rfl rfl ?_
                  rw [show mx 98 10 = nI (p + k) from by rw [hmx, jup_s, upd_n _ _ (by decide), hmy, jup_s, upd_n _ _ (by decide)]; exact e10]
                  refine e_iconst (v := 1) dX4_nextToken_225 rfl ?_
                  refine e_iadd dX4_nextToken_226 ?_
                  rw [show (nI (p + k)) + 1 = nI (p + k + 1) from nI_1 _]
                  refine e_putI dX4_nextToken_227 lkX4_88 rfl rfl fwX4_10 (Or.inl rfl) (fun mz hmz => ?_)
                  exact e_vret dX4_nextToken_230 rfl (by rw [show mz = jup m 98 (mz 98) from by rw [hmz, hmx, hmy, hI1]; simp only [jup_s, jup_jup]]; exact congrArg (jup m 98) (tkF_eq (by rw [hmz, jup_s, upd_n _ _ (by decide), hmx, jup_s, upd_n _ _ (by decide), hmy, jup_s, upd_n _ _ (by decide)]; exact e13) (by rw [hmz, jup_s, upd_n _ _ (by decide), hmx, jup_s, upd_s]; unfold tkT; rw [hR, hk0, if_neg (Nat.lt_irrefl 0), if_neg hpe2]; first | rw [if_pos (isLt_1 ql)] | rw [if_pos (isLt_2 c200)] | rw [if_pos (isLt_3 c209)] | rw [if_neg (isLt_f ql c200 c209)]) (by rw [hmz, jup_s, upd_n _ _ (by decide), hmx, jup_s, upd_n _ _ (by decide), hmy, jup_s, upd_s]; unfold tkW; rw [hR, hk0, if_neg (Nat.lt_irrefl 0), if_neg hpe2] <;> rfl) (by rw [hmz, jup_s, upd_s]; unfold tkQ; rw [hR, hk0, if_neg (Nat.lt_irrefl 0), if_neg hpe2] <;> rfl) (by intro j a b c d; rw [hmz, jup_s, upd_n _ _ a, hmx, jup_s, upd_n _ _ b, hmy, jup_s, upd_n _ _ c]; exact eo j a b c d)))
        · have hk0 : 0 < k := by have := (j_lt (by omega) (by omega)).mp (Int32.not_le.mp c128); omega
          refine e_aload_n dX4_nextToken_131 rfl ?_
          refine e_aload_n dX4_nextToken_132 rfl ?_
          refine e_getI dX4_nextToken_133 lkX4_88 rfl rfl ?_
          rw [show mm 98 10 = nI (p + k) from e10]
          refine e_aload_n dX4_nextToken_136 rfl ?_
          refine e_getI dX4_nextToken_137 lkX4_91 rfl rfl ?_
          rw [show mm 98 13 = nI p from e13]
          refine e_isub dX4_nextToken_140 ?_
          rw [show (nI (p + k)) - (nI p) = nI k from (pk_sub (by omega)).trans (congrArg nI (by omega))]
          refine e_iconst (v := 3) dX4_nextToken_141 rfl ?_
          refine e_icmp_le 149 dX4_nextToken_142 (by decide) (fun c142 => ?_) (fun c142 => ?_)
          · have hk3 : ¬ 3 < k := by have := (j_le (a := k) (b := 3) (by omega) (by decide)).mp c142; omega
            refine e_iconst (v := 2) dX4_nextToken_149 rfl ?_
            refine e_putI dX4_nextToken_150 lkX4_94 rfl rfl fwX4_11 (Or.inl rfl) (fun mx hmx => ?_)
            refine e_goto 230 dX4_nextToken_153 (by decide) ?_
            exact e_vret dX4_nextToken_230 rfl (by rw [show mx = jup m 98 (mx 98) from by rw [hmx, hI1, jup_s, jup_s, jup_jup]]; exact congrArg (jup m 98) (tkF_eq (by rw [hmx, jup_s, upd_n _ _ (by decide)]; exact e13) (by rw [hmx, jup_s, upd_s]; unfold tkT; rw [hR, if_pos hk0]; first | rw [if_pos hk3] | rw [if_neg hk3]) (by rw [hmx, jup_s, upd_n _ _ (by decide), e12]; unfold tkW; rw [hR, if_pos hk0]) (by rw [hmx, jup_s, upd_n _ _ (by decide), e10]; unfold tkQ; rw [hR, if_pos hk0]) (by intro j a b c d; rw [hmx, jup_s, upd_n _ _ b]; exact eo j a b c d)))
          · have hk3 : 3 < k := (j_lt (a := 3) (b := k) (by decide) (by omega)).mp (Int32.not_le.mp c142)
            refine e_iconst (v := 0) dX4_nextToken_145 rfl ?_
            refine e_goto 150 dX4_nextToken_146 (by decide) ?_
            refine e_putI dX4_nextToken_150 lkX4_94 rfl rfl fwX4_11 (Or.inl rfl) (fun mx hmx => ?_)
            refine e_goto 230 dX4_nextToken_153 (by decide) ?_
            exact e_vret dX4_nextToken_230 rfl (by rw [show mx = jup m 98 (mx 98) from by rw [hmx, hI1, jup_s, jup_s, jup_jup]]; exact congrArg (jup m 98) (tkF_eq (by rw [hmx, jup_s, upd_n _ _ (by decide)]; exact e13) (by rw [hmx, jup_s, upd_s]; unfold tkT; rw [hR, if_pos hk0]; first | rw [if_pos hk3] | rw [if_neg hk3]) (by rw [hmx, jup_s, upd_n _ _ (by decide), e12]; unfold tkW; rw [hR, if_pos hk0]) (by rw [hmx, jup_s, upd_n _ _ (by decide), e10]; unfold tkQ; rw [hR, if_pos hk0]) (by intro j a b c d; rw [hmx, jup_s, upd_n _ _ b]; exact eo j a b c d)))
