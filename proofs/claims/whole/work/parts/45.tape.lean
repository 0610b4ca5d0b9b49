/-! ===== the class: the tape's tokens ===== -/
def vC (t : Nat → Int32) (p : Nat) : Nat → Int32
  | 0 => 0
  | k + 1 => if (1000 : Int32) < 10 * vC t p k + t (p + k) - 48 then 1000 else 10 * vC t p k + t (p + k) - 48
def tokC (t : Nat → Int32) (len p : Nat) : Int32 := if 0 < dgR t len p then (if dgR t len p ≤ 3 then -3 else -2) else if p = len then -1 else (if isLt (t p) = true then t p else -2)
theorem dig_ok {x : Int32} (h : isD x = true) : ∃ a, a < 10 ∧ x = nI (48 + a) := by
  have h' := of_decide_eq_true h
  obtain ⟨k, hk, rfl⟩ := nI_of (Int32.not_lt.mpr (Int32.le_trans (by decide) h'.1))
  have h1 := (j_le (a := 48) (b := k) (by decide) hk).mp h'.1
  have h2 := (j_le (a := k) (b := 57) hk (by decide)).mp h'.2
  exact ⟨k - 48, by omega, by rw [show 48 + (k - 48) = k by omega]⟩
theorem num_st {v a : Nat} (hv : v < 1000) (ha : a < 10) : 10 * nI v + nI (48 + a) - 48 = nI (10 * v + a) := by
  rw [show (10 : Int32) * nI v = nI (10 * v) from pk_mul 10 v, nI_add]
  rw [show nI (10 * v + (48 + a)) - 48 = nI (10 * v + (48 + a) - 48) from pk_sub (a := 10 * v + (48 + a)) (b := 48) (by omega)]
  rw [show 10 * v + (48 + a) - 48 = 10 * v + a by omega]
theorem vC_ok {t : Nat → Int32} {p : Nat} : ∀ k, k ≤ 3 → (∀ j, j < k → isD (t (p + j)) = true) → ∃ v, v < 10 ^ k ∧ vC t p k = nI v ∧ vM t p k = nI v
  | 0, _, _ => ⟨0, by decide, rfl, rfl⟩
  | k + 1, hk, h => by
    obtain ⟨v, hv, e1, e2⟩ := vC_ok k (by omega) (fun j hj => h j (by omega))
    obtain ⟨a, ha, e3⟩ := dig_ok (h k (by omega))
    have h2 : 10 ^ k ≤ 100 := Nat.pow_le_pow_right (n := 10) (by decide) (show k ≤ 2 by omega)
    have hs : 10 * v + a < 10 ^ (k + 1) := by rw [Nat.pow_succ]; omega
    have h3 : 10 ^ (k + 1) ≤ 1000 := Nat.pow_le_pow_right (n := 10) (by decide) (show k + 1 ≤ 3 by omega)
    refine ⟨10 * v + a, hs, ?_, ?_⟩
    · show (if _ then _ else _) = _
      rw [e1, e3, num_st (by omega) ha, if_neg]
      exact Int32.not_lt.mpr ((j_le (a := 10 * v + a) (b := 1000) (by omega) (by decide)).mpr (by omega))
    · show (if _ then _ else _) = _
      rw [e2, if_neg (show ¬ (999 : Int32) < nI v from fun z => absurd ((j_lt (a := 999) (b := v) (by decide) (by omega)).mp z) (by omega)), e3, num_st (by omega) ha]
/-- the class's tape stands at the token that begins at p -/
def tokS (m : jM) (len p : Nat) : Prop := m 18 2 = nI p ∧ m 18 3 = nI (tkQ (m 19) len p) ∧ m 18 4 = tokC (m 19) len p ∧ (tkT (m 19) len p = 2 → m 18 5 = tkW (m 19) len p)
/-- what the tape's own doings leave as it was -/
def XF (m m1 : jM) : Prop := (∀ c, c ≠ 18 → m1 c = m c) ∧ m1 18 1 = m 18 1
theorem XF.rf {m : jM} : XF m m := ⟨fun _ _ => rfl, rfl⟩
theorem XF.tr {m m1 m2 : jM} (h : XF m m1) (h2 : XF m1 m2) : XF m m2 := ⟨fun c a => (h2.1 c a).trans (h.1 c a), h2.2.trans h.2⟩
theorem dg_pos {t : Nat → Int32} {len p : Nat} (hp : p < len) (h : isD (t p) = true) : 0 < dgR t len p := by
  unfold dgR
  obtain ⟨f, hf⟩ : ∃ f, len - p = f + 1 := ⟨len - p - 1, by omega⟩
  rw [hf]
  show 0 < (if p < len ∧ isD (t p) = true then dgC t len f (p + 1) + 1 else 0)
  rw [if_pos ⟨hp, h⟩]
  omega
theorem dg_zero {t : Nat → Int32} {len p : Nat} (hp : p < len) (h : ¬ isD (t p) = true) : dgR t len p = 0 := dgR_is (by omega) (fun j hj => by omega) (Or.inr h)
theorem dg_end {t : Nat → Int32} {len : Nat} : dgR t len len = 0 := dgR_is (by omega) (fun j hj => by omega) (Or.inl rfl)
theorem isB_D {v x : Int32} (h : isB v (48 ≤ x ∧ x ≤ 57)) : isB v (isD x = true) := h.iff ⟨fun z => decide_eq_true z, fun z => of_decide_eq_true z⟩
/-- where the reading stands: a fault and its place, or the token that is next -/
abbrev CR : Type := (Int32 × Nat) ⊕ Nat
def stC (t : Nat → Int32) (len : Nat) (c : Int32) (r : CR) : CR := match r with
  | .inl x => .inl x
  | .inr p => if tokC t len p = c then .inr (tkQ t len p) else .inl (1, p)
def nmC (t : Nat → Int32) (len : Nat) (lo hi : Int32) (r : CR) : CR := match r with
  | .inl x => .inl x
  | .inr p => if tkT t len p = 2 then (if lo ≤ tkW t len p ∧ tkW t len p ≤ hi then .inr (tkQ t len p) else .inl (2, p)) else .inl (1, p)
def nvC (t : Nat → Int32) (len : Nat) (lo hi : Int32) (r : CR) : Int32 := match r with
  | .inl _ => lo
  | .inr p => if tkT t len p = 2 then (if lo ≤ tkW t len p ∧ tkW t len p ≤ hi then tkW t len p else lo) else lo
def ST (m : jM) (len : Nat) (r : CR) : Prop := m 18 1 = nI len ∧ (match r with
  | .inl (e, q) => e ≠ 0 ∧ m 18 6 = e ∧ m 18 2 = nI q
  | .inr p => p ≤ len ∧ m 18 6 = 0 ∧ tokS m len p)
theorem ST.fr {m m1 : jM} {len : Nat} {r : CR} (h : ST m len r) (e : m1 18 = m 18) (e2 : m1 19 = m 19) : ST m1 len r := by
  unfold ST tokS
  rw [e, e2]
  exact h
/-- what the class's tape reads as what the reference reads -/
theorem tokC_n {t : Nat → Int32} {len p : Nat} : tokC t len p = -3 ↔ tkT t len p = 2 := by
  unfold tokC tkT
  by_cases h : 0 < dgR t len p
  · rw [if_pos h, if_pos h]
    by_cases h3 : dgR t len p ≤ 3
    · rw [if_pos h3, if_neg (by omega)]; exact ⟨fun _ => rfl, fun _ => rfl⟩
    · rw [if_neg h3, if_pos (by omega)]; exact ⟨fun z => absurd z (by decide), fun z => absurd z (by decide)⟩
  · rw [if_neg h, if_neg h]
    by_cases h2 : p = len
    · rw [if_pos h2, if_pos h2]; exact ⟨fun z => absurd z (by decide), fun z => absurd z (by decide)⟩
    · rw [if_neg h2, if_neg h2]
      by_cases h4 : isLt (t p) = true
      · rw [if_pos h4, if_pos h4]
        exact ⟨fun z => by rw [z] at h4; exact absurd h4 (by decide), fun z => absurd z (by decide)⟩
      · rw [if_neg h4, if_neg h4]; exact ⟨fun z => absurd z (by decide), fun z => absurd z (by decide)⟩
theorem tokC_c {t : Nat → Int32} {len p : Nat} {c : Int32} (hc : isLt c = true) : tokC t len p = c ↔ (tkT t len p = 1 ∧ tkW t len p = c) := by
  have n3 : ¬ c = -3 := fun z => by rw [z] at hc; exact absurd hc (by decide)
  have n2 : ¬ c = -2 := fun z => by rw [z] at hc; exact absurd hc (by decide)
  have n1 : ¬ c = -1 := fun z => by rw [z] at hc; exact absurd hc (by decide)
  unfold tokC tkT tkW
  by_cases h : 0 < dgR t len p
  · rw [if_pos h, if_pos h, if_pos h]
    refine ⟨fun z => ?_, fun z => ?_⟩
    · split at z
      · exact absurd z.symm n3
      · exact absurd z.symm n2
    · have := z.1
      split at this <;> exact absurd this (by decide)
  · rw [if_neg h, if_neg h, if_neg h]
    by_cases h2 : p = len
    · rw [if_pos h2, if_pos h2, if_pos h2]; exact ⟨fun z => absurd z.symm n1, fun z => absurd z.1 (by decide)⟩
    · rw [if_neg h2, if_neg h2, if_neg h2]
      by_cases h4 : isLt (t p) = true
      · rw [if_pos h4, if_pos h4]; exact ⟨fun z => ⟨rfl, z⟩, fun z => z.2⟩
      · rw [if_neg h4, if_neg h4]; exact ⟨fun z => absurd z.symm n2, fun z => absurd z.1 (by decide)⟩
theorem tokC_e {t : Nat → Int32} {len p : Nat} : tokC t len p = -1 ↔ tkT t len p = 3 := by
  unfold tokC tkT
  by_cases h : 0 < dgR t len p
  · rw [if_pos h, if_pos h]
    refine ⟨fun z => ?_, fun z => ?_⟩
    · split at z <;> exact absurd z (by decide)
    · split at z <;> exact absurd z (by decide)
  · rw [if_neg h, if_neg h]
    by_cases h2 : p = len
    · rw [if_pos h2, if_pos h2]; exact ⟨fun _ => rfl, fun _ => rfl⟩
    · rw [if_neg h2, if_neg h2]
      by_cases h4 : isLt (t p) = true
      · rw [if_pos h4, if_pos h4]
        exact ⟨fun z => by rw [z] at h4; exact absurd h4 (by decide), fun z => absurd z (by decide)⟩
      · rw [if_neg h4, if_neg h4]; exact ⟨fun z => absurd z (by decide), fun z => absurd z (by decide)⟩
theorem kdF_c {t : Nat → Int32} {len p : Nat} (h1 : tkT t len p = 1) : kdF (tokC t len p) = kdF (tkW t len p) := by
  unfold tkT at h1
  unfold tokC tkW
  by_cases h : 0 < dgR t len p
  · rw [if_pos h] at h1
    split at h1 <;> exact absurd h1 (by decide)
  · rw [if_neg h] at h1 ⊢
    by_cases h2 : p = len
    · rw [if_pos h2] at h1; exact absurd h1 (by decide)
    · rw [if_neg h2] at h1 ⊢
      by_cases h4 : isLt (t p) = true
      · rw [if_pos h4, if_neg h, if_neg h2]
      · rw [if_neg h4] at h1; exact absurd h1 (by decide)
theorem kdF_o {t : Nat → Int32} {len p : Nat} (h1 : ¬ tkT t len p = 1) : kdF (tokC t len p) = 0 := by
  unfold tkT at h1
  unfold tokC
  by_cases h : 0 < dgR t len p
  · rw [if_pos h]; split <;> rfl
  · rw [if_neg h] at h1 ⊢
    by_cases h2 : p = len
    · rw [if_pos h2]; rfl
    · rw [if_neg h2] at h1 ⊢
      by_cases h4 : isLt (t p) = true
      · rw [if_pos h4] at h1; exact absurd rfl h1
      · rw [if_neg h4]; rfl
set_option maxHeartbeats 2000000 in
set_option maxRecDepth 20000 in
theorem s_isFig (m : jM) (x : Int32) : iX mX2_isFigure [.int x] m (fun v m1 => m = m1 ∧ isB v (isD x = true)) := by
  refine jX_of (L := [some (.int x)]) 0 rfl rfl (by decide +kernel) rfl ?_
  refine e_iload_n dX2_isFigure_0 rfl ?_
  refine e_bipush (v := 48) dX2_isFigure_1 rfl ?_
  refine e_icmp_lt 16 dX2_isFigure_3 (by decide) (fun c3 => ?_) (fun c3 => ?_)
  · refine e_iconst (v := 0) dX2_isFigure_16 rfl ?_
    exact e_zret dX2_isFigure_17 rfl (by decide) (⟨rfl, isB_D (by first | exact isB.t ⟨Int32.not_lt.mp c3, Int32.not_lt.mp c9⟩ | exact isB.f (fun z => absurd c9 (Int32.not_lt.mpr z.2)) | exact isB.f (fun z => absurd c3 (Int32.not_lt.mpr z.1)))⟩)
  · refine e_iload_n dX2_isFigure_6 rfl ?_
    refine e_bipush (v := 57) dX2_isFigure_7 rfl ?_
    refine e_icmp_gt 16 dX2_isFigure_9 (by decide) (fun c9 => ?_) (fun c9 => ?_)
    · refine e_iconst (v := 0) dX2_isFigure_16 rfl ?_
      exact e_zret dX2_isFigure_17 rfl (by decide) (⟨rfl, isB_D (by first | exact isB.t ⟨Int32.not_lt.mp c3, Int32.not_lt.mp c9⟩ | exact isB.f (fun z => absurd c9 (Int32.not_lt.mpr z.2)) | exact isB.f (fun z => absurd c3 (Int32.not_lt.mpr z.1)))⟩)
    · refine e_iconst (v := 1) dX2_isFigure_12 rfl ?_
      refine e_goto 17 dX2_isFigure_13 (by decide) ?_
      exact e_zret dX2_isFigure_17 rfl (by decide) (⟨rfl, isB_D (by first | exact isB.t ⟨Int32.not_lt.mp c3, Int32.not_lt.mp c9⟩ | exact isB.f (fun z => absurd c9 (Int32.not_lt.mpr z.2)) | exact isB.f (fun z => absurd c3 (Int32.not_lt.mpr z.1)))⟩)

set_option maxHeartbeats 2000000 in
set_option maxRecDepth 20000 in
theorem s_kindOf (m : jM) (x : Int32) : iX mX2_kindOf [.int x] m (fun v m1 => v = kdF x ∧ m = m1) := by
  refine jX_of (L := [some (.int x)]) 0 rfl rfl (by decide +kernel) rfl ?_
  refine e_iload_n dX2_kindOf_0 rfl ?_
  by_cases z1_99 : x = 99
  · subst z1_99
    refine e_tsIn 78 dX2_kindOf_1 (by decide) (by decide) rfl (by decide) ?_
    refine e_iconst (v := 2) dX2_kindOf_78 rfl ?_
    exact e_iret dX2_kindOf_79 rfl (⟨by first | rfl | (unfold kdF; simp_all), rfl⟩)
  by_cases z1_100 : x = 100
  · subst z1_100
    refine e_tsIn 84 dX2_kindOf_1 (by decide) (by decide) rfl (by decide) ?_
    refine e_iconst (v := 5) dX2_kindOf_84 rfl ?_
    exact e_iret dX2_kindOf_85 rfl (⟨by first | rfl | (unfold kdF; simp_all), rfl⟩)
  by_cases z1_101 : x = 101
  · subst z1_101
    refine e_tsIn 86 dX2_kindOf_1 (by decide) (by decide) rfl (by decide) ?_
    refine e_iconst (v := 0) dX2_kindOf_86 rfl ?_
    exact e_iret dX2_kindOf_87 rfl (⟨by first | rfl | (unfold kdF; simp_all), rfl⟩)
  by_cases z1_102 : x = 102
  · subst z1_102
    refine e_tsIn 86 dX2_kindOf_1 (by decide) (by decide) rfl (by decide) ?_
    refine e_iconst (v := 0) dX2_kindOf_86 rfl ?_
    exact e_iret dX2_kindOf_87 rfl (⟨by first | rfl | (unfold kdF; simp_all), rfl⟩)
  by_cases z1_103 : x = 103
  · subst z1_103
    refine e_tsIn 86 dX2_kindOf_1 (by decide) (by decide) rfl (by decide) ?_
    refine e_iconst (v := 0) dX2_kindOf_86 rfl ?_
    exact e_iret dX2_kindOf_87 rfl (⟨by first | rfl | (unfold kdF; simp_all), rfl⟩)
  by_cases z1_104 : x = 104
  · subst z1_104
    refine e_tsIn 86 dX2_kindOf_1 (by decide) (by decide) rfl (by decide) ?_
    refine e_iconst (v := 0) dX2_kindOf_86 rfl ?_
    exact e_iret dX2_kindOf_87 rfl (⟨by first | rfl | (unfold kdF; simp_all), rfl⟩)
  by_cases z1_105 : x = 105
  · subst z1_105
    refine e_tsIn 86 dX2_kindOf_1 (by decide) (by decide) rfl (by decide) ?_
    refine e_iconst (v := 0) dX2_kindOf_86 rfl ?_
    exact e_iret dX2_kindOf_87 rfl (⟨by first | rfl | (unfold kdF; simp_all), rfl⟩)
  by_cases z1_106 : x = 106
  · subst z1_106
    refine e_tsIn 86 dX2_kindOf_1 (by decide) (by decide) rfl (by decide) ?_
    refine e_iconst (v := 0) dX2_kindOf_86 rfl ?_
    exact e_iret dX2_kindOf_87 rfl (⟨by first | rfl | (unfold kdF; simp_all), rfl⟩)
  by_cases z1_107 : x = 107
  · subst z1_107
    refine e_tsIn 86 dX2_kindOf_1 (by decide) (by decide) rfl (by decide) ?_
    refine e_iconst (v := 0) dX2_kindOf_86 rfl ?_
    exact e_iret dX2_kindOf_87 rfl (⟨by first | rfl | (unfold kdF; simp_all), rfl⟩)
  by_cases z1_108 : x = 108
  · subst z1_108
    refine e_tsIn 86 dX2_kindOf_1 (by decide) (by decide) rfl (by decide) ?_
    refine e_iconst (v := 0) dX2_kindOf_86 rfl ?_
    exact e_iret dX2_kindOf_87 rfl (⟨by first | rfl | (unfold kdF; simp_all), rfl⟩)
  by_cases z1_109 : x = 109
  · subst z1_109
    refine e_tsIn 82 dX2_kindOf_1 (by decide) (by decide) rfl (by decide) ?_
    refine e_iconst (v := 4) dX2_kindOf_82 rfl ?_
    exact e_iret dX2_kindOf_83 rfl (⟨by first | rfl | (unfold kdF; simp_all), rfl⟩)
  by_cases z1_110 : x = 110
  · subst z1_110
    refine e_tsIn 86 dX2_kindOf_1 (by decide) (by decide) rfl (by decide) ?_
    refine e_iconst (v := 0) dX2_kindOf_86 rfl ?_
    exact e_iret dX2_kindOf_87 rfl (⟨by first | rfl | (unfold kdF; simp_all), rfl⟩)
  by_cases z1_111 : x = 111
  · subst z1_111
    refine e_tsIn 86 dX2_kindOf_1 (by decide) (by decide) rfl (by decide) ?_
    refine e_iconst (v := 0) dX2_kindOf_86 rfl ?_
    exact e_iret dX2_kindOf_87 rfl (⟨by first | rfl | (unfold kdF; simp_all), rfl⟩)
  by_cases z1_112 : x = 112
  · subst z1_112
    refine e_tsIn 76 dX2_kindOf_1 (by decide) (by decide) rfl (by decide) ?_
    refine e_iconst (v := 1) dX2_kindOf_76 rfl ?_
    exact e_iret dX2_kindOf_77 rfl (⟨by first | rfl | (unfold kdF; simp_all), rfl⟩)
  by_cases z1_113 : x = 113
  · subst z1_113
    refine e_tsIn 80 dX2_kindOf_1 (by decide) (by decide) rfl (by decide) ?_
    refine e_iconst (v := 3) dX2_kindOf_80 rfl ?_
    exact e_iret dX2_kindOf_81 rfl (⟨by first | rfl | (unfold kdF; simp_all), rfl⟩)
  refine e_tsOut 86 dX2_kindOf_1 (by have := lv_neT z1_99 (a := 99) rfl; have := lv_neT z1_100 (a := 100) rfl; have := lv_neT z1_101 (a := 101) rfl; have := lv_neT z1_102 (a := 102) rfl; have := lv_neT z1_103 (a := 103) rfl; have := lv_neT z1_104 (a := 104) rfl; have := lv_neT z1_105 (a := 105) rfl; have := lv_neT z1_106 (a := 106) rfl; have := lv_neT z1_107 (a := 107) rfl; have := lv_neT z1_108 (a := 108) rfl; have := lv_neT z1_109 (a := 109) rfl; have := lv_neT z1_110 (a := 110) rfl; have := lv_neT z1_111 (a := 111) rfl; have := lv_neT z1_112 (a := 112) rfl; have := lv_neT z1_113 (a := 113) rfl; omega) (by decide) ?_
  refine e_iconst (v := 0) dX2_kindOf_86 rfl ?_
  exact e_iret dX2_kindOf_87 rfl (⟨by first | rfl | (unfold kdF; simp_all), rfl⟩)

set_option maxHeartbeats 2000000 in
set_option maxRecDepth 20000 in
theorem s_stepNumber (m : jM) (len p : Nat) (hl : len ≤ 120) (hp : p < len) (hs : m 18 1 = nI len) (hpl : m 18 2 = nI p) (hn : m 18 3 = nI p) (hd : isD (m 19 p) = true) : vX mX2_stepNumber [.ref 18] m (fun m1 => XF m m1 ∧ m1 18 2 = nI p ∧ m1 18 3 = nI (tkQ (m 19) len p) ∧ m1 18 4 = tokC (m 19) len p ∧ (tkT (m 19) len p = 2 → m1 18 5 = tkW (m 19) len p) ∧ m1 18 6 = m 18 6) := by
  have hpos := dg_pos hp hd
  refine jX_of (L := [some (.ref 18)]) 0 rfl rfl (by decide +kernel) rfl ?_
  refine e_aload_n dX2_stepNumber_0 rfl ?_
  refine e_iconst (v := 0) dX2_stepNumber_1 rfl ?_
  refine e_putI dX2_stepNumber_2 lkX2_28 rfl rfl fwX2_5 (Or.inl rfl) (fun ma hma => ?_)
  refine e_loopS (σ := Unit) 5 (len - p) (fun k _ => [some (.ref 18)]) (fun k _ mm => (∀ j, j < k → isD (m 19 (p + j)) = true) ∧ mm 18 3 = nI (p + k) ∧ mm 18 5 = vC (m 19) p k ∧ (∀ c, c ≠ 18 → mm c = m c) ∧ (∀ f, f ≠ 3 → f ≠ 5 → mm 18 f = m 18 f)) 0 () (Nat.zero_le _) rfl (⟨fun j hj => absurd hj (Nat.not_lt_zero j), by rw [hma, jup_s, upd_n _ _ (by decide)]; exact hn, by rw [hma, jup_s, upd_s]; rfl, fun c a => by rw [hma, jup_n _ _ a], fun f a b => by rw [hma, jup_s, upd_n _ _ b]⟩) ?_ ?_
  · intro _ mm hI
    show jE _ _ 5 [some (.ref 18)] [] mm
    obtain ⟨hI1, hI2, hI3, hI4, hI5⟩ := hI
    refine e_aload_n dX2_stepNumber_5 rfl ?_
    refine e_getI dX2_stepNumber_6 lkX2_22 rfl rfl ?_
    rw [show mm 18 3 = nI (p + (len - p)) from hI2]
    refine e_aload_n dX2_stepNumber_9 rfl ?_
    refine e_getI dX2_stepNumber_10 lkX2_15 rfl rfl ?_
    rw [show mm 18 1 = nI len from by rw [hI5 1 (by decide) (by decide)]; exact hs]
    refine e_icmp_ge 74 dX2_stepNumber_13 (by decide) (fun c13 => ?_) (fun h => absurd ((j_le (by omega) (by omega)).mpr (by omega)) h)
    refine e_aload_n dX2_stepNumber_74 rfl ?_
    refine e_aload_n dX2_stepNumber_75 rfl ?_
    refine e_getI dX2_stepNumber_76 lkX2_22 rfl rfl ?_
    rw [show mm 18 3 = nI (p + (len - p)) from hI2]
    refine e_aload_n dX2_stepNumber_79 rfl ?_
    refine e_getI dX2_stepNumber_80 lkX2_19 rfl rfl ?_
    rw [show mm 18 2 = nI p from by rw [hI5 2 (by decide) (by decide)]; exact hpl]
    refine e_isub dX2_stepNumber_83 ?_
    rw [show (nI (p + (len - p))) - (nI p) = nI (len - p) from (pk_sub (by omega)).trans (congrArg nI (by omega))]
    refine e_iconst (v := 3) dX2_stepNumber_84 rfl ?_
    refine e_icmp_gt 93 dX2_stepNumber_85 (by decide) (fun c85 => ?_) (fun c85 => ?_)
    · have h3 : 3 < len - p := (j_lt (a := 3) (by decide) (by omega)).mp c85
      refine e_bipush (v := -2) dX2_stepNumber_93 rfl ?_
      refine e_putI dX2_stepNumber_95 lkX2_25 rfl rfl fwX2_4 (Or.inl rfl) (fun mt hmt => ?_)
      exact e_vret dX2_stepNumber_98 rfl (by
        have hk3 : dgR (m 19) len p = (len - p) := dgR_is (by omega) hI1 (Or.inl (by omega))
        refine ⟨⟨fun c a => by rw [hmt, jup_n _ _ a]; exact hI4 c a, by rw [hmt, jup_s, upd_n _ _ (by decide)]; exact hI5 1 (by decide) (by decide)⟩, ?_, ?_, ?_, fun h2 => ?_, ?_⟩
        · rw [hmt, jup_s, upd_n _ _ (by decide)]; exact (hI5 2 (by decide) (by decide)).trans hpl
        · rw [hmt, jup_s, upd_n _ _ (by decide), hI2]; unfold tkQ; rw [if_pos hpos, hk3]
        · rw [hmt, jup_s, upd_s]; unfold tokC; rw [if_pos hpos, hk3]; first | rw [if_pos (by omega)] | rw [if_neg (by omega)]
        · rw [hmt, jup_s, upd_n _ _ (by decide), hI3]
          have hd3 : dgR (m 19) len p ≤ 3 := by
            rcases Nat.lt_or_ge 3 (dgR (m 19) len p) with z | z
            · unfold tkT at h2; rw [if_pos hpos, if_pos z] at h2; exact absurd h2 (by decide)
            · exact z
          rw [hk3] at hd3
          obtain ⟨v, -, a1, a2⟩ := vC_ok (t := m 19) (p := p) (len - p) hd3 hI1
          unfold tkW
          rw [if_pos hpos, hk3, a1, a2]
        · rw [hmt, jup_s, upd_n _ _ (by decide)]; exact hI5 6 (by decide) (by decide))
    · have h3 : len - p ≤ 3 := (j_le (b := 3) (by omega) (by decide)).mp (Int32.not_lt.mp c85)
      refine e_bipush (v := -3) dX2_stepNumber_88 rfl ?_
      refine e_goto 95 dX2_stepNumber_90 (by decide) ?_
      refine e_putI dX2_stepNumber_95 lkX2_25 rfl rfl fwX2_4 (Or.inl rfl) (fun mt hmt => ?_)
      exact e_vret dX2_stepNumber_98 rfl (by
        have hk3 : dgR (m 19) len p = (len - p) := dgR_is (by omega) hI1 (Or.inl (by omega))
        refine ⟨⟨fun c a => by rw [hmt, jup_n _ _ a]; exact hI4 c a, by rw [hmt, jup_s, upd_n _ _ (by decide)]; exact hI5 1 (by decide) (by decide)⟩, ?_, ?_, ?_, fun h2 => ?_, ?_⟩
        · rw [hmt, jup_s, upd_n _ _ (by decide)]; exact (hI5 2 (by decide) (by decide)).trans hpl
        · rw [hmt, jup_s, upd_n _ _ (by decide), hI2]; unfold tkQ; rw [if_pos hpos, hk3]
        · rw [hmt, jup_s, upd_s]; unfold tokC; rw [if_pos hpos, hk3]; first | rw [if_pos (by omega)] | rw [if_neg (by omega)]
        · rw [hmt, jup_s, upd_n _ _ (by decide), hI3]
          have hd3 : dgR (m 19) len p ≤ 3 := by
            rcases Nat.lt_or_ge 3 (dgR (m 19) len p) with z | z
            · unfold tkT at h2; rw [if_pos hpos, if_pos z] at h2; exact absurd h2 (by decide)
            · exact z
          rw [hk3] at hd3
          obtain ⟨v, -, a1, a2⟩ := vC_ok (t := m 19) (p := p) (len - p) hd3 hI1
          unfold tkW
          rw [if_pos hpos, hk3, a1, a2]
        · rw [hmt, jup_s, upd_n _ _ (by decide)]; exact hI5 6 (by decide) (by decide))
  · intro k hk_ _ mm hI ih
    show jE _ _ 5 [some (.ref 18)] [] mm
    obtain ⟨hI1, hI2, hI3, hI4, hI5⟩ := hI
    have hkl := hk_
    refine e_aload_n dX2_stepNumber_5 rfl ?_
    refine e_getI dX2_stepNumber_6 lkX2_22 rfl rfl ?_
    rw [show mm 18 3 = nI (p + k) from hI2]
    refine e_aload_n dX2_stepNumber_9 rfl ?_
    refine e_getI dX2_stepNumber_10 lkX2_15 rfl rfl ?_
    rw [show mm 18 1 = nI len from by rw [hI5 1 (by decide) (by decide)]; exact hs]
    refine e_icmp_ge 74 dX2_stepNumber_13 (by decide) (fun h => absurd ((j_le (by omega) (by omega)).mp h) (by omega)) (fun c13 => ?_)
    refine e_aload_n dX2_stepNumber_16 rfl ?_
    refine e_getR (o := 1) (b := 19) dX2_stepNumber_17 lkX2_9 rfl rfl (by decide) rfl ?_
    refine e_aload_n dX2_stepNumber_20 rfl ?_
    refine e_getI dX2_stepNumber_21 lkX2_22 rfl rfl ?_
    rw [show mm 18 3 = nI (p + k) from hI2]
    refine e_iald dX2_stepNumber_24 rfl (p + k) rfl (by omega) (by decide) ?_
    rw [show mm 19 (p + k) = m 19 (p + k) from by rw [hI4 19 (by decide)]]
    refine e_callSi (n := 1) mX2_isFigure [.int (m 19 (p + k))] dX2_stepNumber_25 ckX2_91 rfl (by decide +kernel) rfl rfl (Nat.le_of_ble_eq_true rfl) ⟨Nat.zero_le _, Nat.zero_le _⟩ (s_isFig mm (m 19 (p + k))) (fun v25 m4 hm4 => ?_)
    rcases hm4 with ⟨rfl, ⟨rfl, q⟩ | ⟨rfl, q⟩⟩
    · refine e_if_eq 74 dX2_stepNumber_28 (by decide) (fun h => absurd h (by decide)) (fun c28 => ?_)
      refine e_aload_n dX2_stepNumber_31 rfl ?_
      refine e_bipush (v := 10) dX2_stepNumber_32 rfl ?_
      refine e_aload_n dX2_stepNumber_34 rfl ?_
      refine e_getI dX2_stepNumber_35 lkX2_28 rfl rfl ?_
      rw [show mm 18 5 = vC (m 19) p k from hI3]
      refine e_imul dX2_stepNumber_38 ?_
      refine e_aload_n dX2_stepNumber_39 rfl ?_
      refine e_getR (o := 1) (b := 19) dX2_stepNumber_40 lkX2_9 rfl rfl (by decide) rfl ?_
      refine e_aload_n dX2_stepNumber_43 rfl ?_
      refine e_getI dX2_stepNumber_44 lkX2_22 rfl rfl ?_
      rw [show mm 18 3 = nI (p + k) from hI2]
      refine e_iald dX2_stepNumber_47 rfl (p + k) rfl (by omega) (by decide) ?_
      rw [show mm 19 (p + k) = m 19 (p + k) from by rw [hI4 19 (by decide)]]
      refine e_iadd dX2_stepNumber_48 ?_
      refine e_bipush (v := 48) dX2_stepNumber_49 rfl ?_
      refine e_isub dX2_stepNumber_51 ?_
      refine e_sipush (v := 1000) dX2_stepNumber_52 rfl ?_
      refine e_callSi (n := 2) mMath_min [.int (((10 * (vC (m 19) p k)) + (m 19 (p + k))) - 48), .int 1000] dX2_stepNumber_55 ckX2_98 rfl (by decide +kernel) rfl rfl (Nat.le_of_ble_eq_true rfl) ⟨Nat.zero_le _, Nat.zero_le _⟩ (s_min mm (((10 * (vC (m 19) p k)) + (m 19 (p + k))) - 48) 1000) (fun v55 m5 hm5 => ?_)
      obtain ⟨rfl, rfl⟩ := hm5
      rw [show (if 1000 < ((10 * (vC (m 19) p k)) + (m 19 (p + k))) - 48 then 1000 else ((10 * (vC (m 19) p k)) + (m 19 (p + k))) - 48) = vC (m 19) p (k + 1) from rfl]
      refine e_putI dX2_stepNumber_58 lkX2_28 rfl rfl fwX2_5 (Or.inl rfl) (fun mb hmb => ?_)
      refine e_aload_n dX2_stepNumber_61 rfl ?_
      refine e_dup dX2_stepNumber_62 rfl ?_
      refine e_getI dX2_stepNumber_63 lkX2_22 rfl rfl ?_
      rw [show mb 18 3 = nI (p + k) from by rw [hmb, jup_s, upd_n _ _ (by decide)]; exact hI2]
      refine e_iconst (v := 1) dX2_stepNumber_66 rfl ?_
      refine e_iadd dX2_stepNumber_67 ?_
      rw [show (nI (p + k)) + 1 = nI (p + (k + 1)) from by rw [show (1 : Int32) = nI 1 from rfl, nI_add]; rfl]
      refine e_putI dX2_stepNumber_68 lkX2_22 rfl rfl fwX2_3 (Or.inl rfl) (fun mc hmc => ?_)
      refine e_goto 5 dX2_stepNumber_71 (by decide) ?_
      refine ih () mc ⟨fun j hj => ?_, by rw [hmc, jup_s, upd_s], by rw [hmc, jup_s, upd_n _ _ (by decide), hmb, jup_s, upd_s], fun c a => by rw [hmc, jup_n _ _ a, hmb, jup_n _ _ a]; exact hI4 c a, fun f a b => by rw [hmc, jup_s, upd_n _ _ a, hmb, jup_s, upd_n _ _ b]; exact hI5 f a b⟩
      by_cases e : j = k
      · rw [e]; exact q
      · exact hI1 j (by omega)
    · refine e_if_eq 74 dX2_stepNumber_28 (by decide) (fun c28 => ?_) (fun h => absurd h (by decide))
      refine e_aload_n dX2_stepNumber_74 rfl ?_
      refine e_aload_n dX2_stepNumber_75 rfl ?_
      refine e_getI dX2_stepNumber_76 lkX2_22 rfl rfl ?_
      rw [show mm 18 3 = nI (p + k) from hI2]
      refine e_aload_n dX2_stepNumber_79 rfl ?_
      refine e_getI dX2_stepNumber_80 lkX2_19 rfl rfl ?_
      rw [show mm 18 2 = nI p from by rw [hI5 2 (by decide) (by decide)]; exact hpl]
      refine e_isub dX2_stepNumber_83 ?_
      rw [show (nI (p + k)) - (nI p) = nI k from (pk_sub (by omega)).trans (congrArg nI (by omega))]
      refine e_iconst (v := 3) dX2_stepNumber_84 rfl ?_
      refine e_icmp_gt 93 dX2_stepNumber_85 (by decide) (fun c85 => ?_) (fun c85 => ?_)
      · have h3 : 3 < k := (j_lt (a := 3) (by decide) (by omega)).mp c85
        refine e_bipush (v := -2) dX2_stepNumber_93 rfl ?_
        refine e_putI dX2_stepNumber_95 lkX2_25 rfl rfl fwX2_4 (Or.inl rfl) (fun mt hmt => ?_)
        exact e_vret dX2_stepNumber_98 rfl (by
        have hk3 : dgR (m 19) len p = k := dgR_is (by omega) hI1 (Or.inr q)
        refine ⟨⟨fun c a => by rw [hmt, jup_n _ _ a]; exact hI4 c a, by rw [hmt, jup_s, upd_n _ _ (by decide)]; exact hI5 1 (by decide) (by decide)⟩, ?_, ?_, ?_, fun h2 => ?_, ?_⟩
        · rw [hmt, jup_s, upd_n _ _ (by decide)]; exact (hI5 2 (by decide) (by decide)).trans hpl
        · rw [hmt, jup_s, upd_n _ _ (by decide), hI2]; unfold tkQ; rw [if_pos hpos, hk3]
        · rw [hmt, jup_s, upd_s]; unfold tokC; rw [if_pos hpos, hk3]; first | rw [if_pos (by omega)] | rw [if_neg (by omega)]
        · rw [hmt, jup_s, upd_n _ _ (by decide), hI3]
          have hd3 : dgR (m 19) len p ≤ 3 := by
            rcases Nat.lt_or_ge 3 (dgR (m 19) len p) with z | z
            · unfold tkT at h2; rw [if_pos hpos, if_pos z] at h2; exact absurd h2 (by decide)
            · exact z
          rw [hk3] at hd3
          obtain ⟨v, -, a1, a2⟩ := vC_ok (t := m 19) (p := p) k hd3 hI1
          unfold tkW
          rw [if_pos hpos, hk3, a1, a2]
        · rw [hmt, jup_s, upd_n _ _ (by decide)]; exact hI5 6 (by decide) (by decide))
      · have h3 : k ≤ 3 := (j_le (b := 3) (by omega) (by decide)).mp (Int32.not_lt.mp c85)
        refine e_bipush (v := -3) dX2_stepNumber_88 rfl ?_
        refine e_goto 95 dX2_stepNumber_90 (by decide) ?_
        refine e_putI dX2_stepNumber_95 lkX2_25 rfl rfl fwX2_4 (Or.inl rfl) (fun mt hmt => ?_)
        exact e_vret dX2_stepNumber_98 rfl (by
        have hk3 : dgR (m 19) len p = k := dgR_is (by omega) hI1 (Or.inr q)
        refine ⟨⟨fun c a => by rw [hmt, jup_n _ _ a]; exact hI4 c a, by rw [hmt, jup_s, upd_n _ _ (by decide)]; exact hI5 1 (by decide) (by decide)⟩, ?_, ?_, ?_, fun h2 => ?_, ?_⟩
        · rw [hmt, jup_s, upd_n _ _ (by decide)]; exact (hI5 2 (by decide) (by decide)).trans hpl
        · rw [hmt, jup_s, upd_n _ _ (by decide), hI2]; unfold tkQ; rw [if_pos hpos, hk3]
        · rw [hmt, jup_s, upd_s]; unfold tokC; rw [if_pos hpos, hk3]; first | rw [if_pos (by omega)] | rw [if_neg (by omega)]
        · rw [hmt, jup_s, upd_n _ _ (by decide), hI3]
          have hd3 : dgR (m 19) len p ≤ 3 := by
            rcases Nat.lt_or_ge 3 (dgR (m 19) len p) with z | z
            · unfold tkT at h2; rw [if_pos hpos, if_pos z] at h2; exact absurd h2 (by decide)
            · exact z
          rw [hk3] at hd3
          obtain ⟨v, -, a1, a2⟩ := vC_ok (t := m 19) (p := p) k hd3 hI1
          unfold tkW
          rw [if_pos hpos, hk3, a1, a2]
        · rw [hmt, jup_s, upd_n _ _ (by decide)]; exact hI5 6 (by decide) (by decide))

set_option maxHeartbeats 2000000 in
set_option maxRecDepth 20000 in
theorem s_step (m : jM) (len p : Nat) (hl : len ≤ 120) (hp : p ≤ len) (hs : m 18 1 = nI len) (hn : m 18 3 = nI p) : vX mX2_step [.ref 18] m (fun m1 => XF m m1 ∧ m1 18 2 = nI p ∧ m1 18 3 = nI (tkQ (m 19) len p) ∧ m1 18 4 = tokC (m 19) len p ∧ (tkT (m 19) len p = 2 → m1 18 5 = tkW (m 19) len p) ∧ m1 18 6 = m 18 6) := by
  refine jX_of (L := [some (.ref 18), none, none]) 2 rfl rfl (by decide +kernel) rfl ?_
  refine e_aload_n dX2_step_0 rfl ?_
  refine e_aload_n dX2_step_1 rfl ?_
  refine e_getI dX2_step_2 lkX2_22 rfl rfl ?_
  rw [show m 18 3 = nI p from hn]
  refine e_putI dX2_step_5 lkX2_19 rfl rfl fwX2_2 (Or.inl rfl) (fun ma hma => ?_)
  have g19 : ma 19 = m 19 := by rw [hma, jup_n _ _ (by decide)]
  refine e_aload_n dX2_step_8 rfl ?_
  refine e_getI dX2_step_9 lkX2_22 rfl rfl ?_
  rw [show ma 18 3 = nI p from by rw [hma, jup_s, upd_n _ _ (by decide)]; exact hn]
  refine e_aload_n dX2_step_12 rfl ?_
  refine e_getI dX2_step_13 lkX2_15 rfl rfl ?_
  rw [show ma 18 1 = nI len from by rw [hma, jup_s, upd_n _ _ (by decide)]; exact hs]
  refine e_icmp_lt 25 dX2_step_16 (by decide) (fun c16 => ?_) (fun c16 => ?_)
  · have pl : p < len := (j_lt (by omega) (by omega)).mp c16
    refine e_aload_n dX2_step_25 rfl ?_
    refine e_getR (o := 1) (b := 19) dX2_step_26 lkX2_9 rfl rfl (by decide) rfl ?_
    refine e_aload_n dX2_step_29 rfl ?_
    refine e_getI dX2_step_30 lkX2_22 rfl rfl ?_
    rw [show ma 18 3 = nI p from by rw [hma, jup_s, upd_n _ _ (by decide)]; exact hn]
    refine e_iald dX2_step_33 rfl p rfl (by omega) (by decide) ?_
    rw [show ma 19 p = m 19 p from by rw [g19]]
    refine e_istore_n (L' := [some (.ref 18), some (.int (m 19 p)), none]) dX2_step_34 (Nat.le_of_ble_eq_true rfl) (Nat.le_of_ble_eq_true rfl) (jnl_at (i := 0) rfl) rfl ?_
    refine e_iload_n dX2_step_35 rfl ?_
    refine e_callSi (n := 1) mX2_isFigure [.int (m 19 p)] dX2_step_36 ckX2_91 rfl (by decide +kernel) rfl rfl (Nat.le_of_ble_eq_true rfl) ⟨Nat.zero_le _, Nat.zero_le _⟩ (s_isFig ma (m 19 p)) (fun v36 m2 hm2 => ?_)
    rcases hm2 with ⟨rfl, ⟨rfl, q⟩ | ⟨rfl, q⟩⟩
    · refine e_if_eq 47 dX2_step_39 (by decide) (fun h => absurd h (by decide)) (fun c39 => ?_)
      refine e_aload_n dX2_step_42 rfl ?_
      refine e_callVv (n := 0) mX2_stepNumber [] dX2_step_43 ckX2_95 rfl (by decide +kernel) rfl rfl rfl rfl (Nat.le_of_ble_eq_true rfl) ⟨Nat.zero_le _, Nat.zero_le _⟩ (s_stepNumber ma len p hl (by omega) (by rw [hma, jup_s, upd_n _ _ (by decide)]; exact hs) (by rw [hma, jup_s, upd_s]) (by rw [hma, jup_s, upd_n _ _ (by decide)]; exact hn) (by rw [g19]; exact q)) (fun mz hmz => ?_)
      exact e_vret dX2_step_46 rfl (by
          rw [g19] at hmz
          exact ⟨XF.tr (m1 := ma) ⟨fun c a => by rw [hma, jup_n _ _ a], by rw [hma, jup_s, upd_n _ _ (by decide)]⟩ hmz.1, hmz.2.1, hmz.2.2.1, hmz.2.2.2.1, hmz.2.2.2.2.1, by rw [hmz.2.2.2.2.2, hma, jup_s, upd_n _ _ (by decide)]⟩)
    · refine e_if_eq 47 dX2_step_39 (by decide) (fun c39 => ?_) (fun h => absurd h (by decide))
      refine e_aload_n dX2_step_47 rfl ?_
      refine e_dup dX2_step_48 rfl ?_
      refine e_getI dX2_step_49 lkX2_22 rfl rfl ?_
      rw [show ma 18 3 = nI p from by rw [hma, jup_s, upd_n _ _ (by decide)]; exact hn]
      refine e_iconst (v := 1) dX2_step_52 rfl ?_
      refine e_iadd dX2_step_53 ?_
      rw [show (nI p) + 1 = nI (p + 1) from nI_1 p]
      refine e_putI dX2_step_54 lkX2_22 rfl rfl fwX2_3 (Or.inl rfl) (fun mn hmn => ?_)
      refine e_iload_n dX2_step_57 rfl ?_
      refine e_bipush (v := 97) dX2_step_58 rfl ?_
      refine e_icmp_lt 69 dX2_step_60 (by decide) (fun c60 => ?_) (fun c60 => ?_)
      · refine e_iload_n dX2_step_69 rfl ?_
        refine e_bipush (v := 44) dX2_step_70 rfl ?_
        refine e_icmp_eq 81 dX2_step_72 (by decide) (fun c72 => ?_) (fun c72 => ?_)
        · refine e_iconst (v := 1) dX2_step_81 rfl ?_
          refine e_goto 86 dX2_step_82 (by decide) ?_
          refine e_istore_n (L' := [some (.ref 18), some (.int (m 19 p)), some (.int 1)]) dX2_step_86 (Nat.le_of_ble_eq_true rfl) (Nat.le_of_ble_eq_true rfl) (jnl_at (i := 1) rfl) rfl ?_
          refine e_aload_n dX2_step_87 rfl ?_
          refine e_iload_n dX2_step_88 rfl ?_
          refine e_if_eq 96 dX2_step_89 (by decide) (fun h => absurd h (by decide)) (fun c89 => ?_)
          refine e_iload_n dX2_step_92 rfl ?_
          refine e_goto 98 dX2_step_93 (by decide) ?_
          refine e_putI dX2_step_98 lkX2_25 rfl rfl fwX2_4 (Or.inl rfl) (fun mt hmt => ?_)
          exact e_vret dX2_step_101 rfl (by
          have d0 := dg_zero (by omega) q
          refine ⟨⟨fun c a => by rw [hmt, jup_n _ _ a, hmn, jup_n _ _ a, hma, jup_n _ _ a], by rw [hmt, jup_s, upd_n _ _ (by decide), hmn, jup_s, upd_n _ _ (by decide), hma, jup_s, upd_n _ _ (by decide)]⟩, by rw [hmt, jup_s, upd_n _ _ (by decide), hmn, jup_s, upd_n _ _ (by decide), hma, jup_s, upd_s], ?_, ?_, fun h2 => ?_, by rw [hmt, jup_s, upd_n _ _ (by decide), hmn, jup_s, upd_n _ _ (by decide), hma, jup_s, upd_n _ _ (by decide)]⟩
          · rw [hmt, jup_s, upd_n _ _ (by decide), hmn, jup_s, upd_s]
            unfold tkQ; rw [d0, if_neg (by decide), if_neg (by omega)]
          · rw [hmt, jup_s, upd_s]
            unfold tokC; rw [d0, if_neg (by decide), if_neg (by omega)]
            first
              | rw [if_pos (isLt_1 ⟨Int32.not_lt.mp c60, Int32.not_lt.mp c66⟩)]
              | rw [if_pos (isLt_1 ⟨Int32.not_lt.mp c60, c66⟩)]
              | rw [if_pos (isLt_2 (by first | exact c72 | exact Classical.byContradiction c72))]
              | rw [if_pos (isLt_3 (by first | exact c78 | exact Classical.byContradiction c78))]
              | rw [if_neg (isLt_f (fun z => by first | exact absurd z.1 (Int32.not_le.mpr c60) | exact c66 z.2) c72 c78)]
          · unfold tkT at h2; rw [d0, if_neg (by decide), if_neg (by omega)] at h2; split at h2 <;> exact absurd h2 (by decide))
        · refine e_iload_n dX2_step_75 rfl ?_
          refine e_bipush (v := 59) dX2_step_76 rfl ?_
          refine e_icmp_ne 85 dX2_step_78 (by decide) (fun c78 => ?_) (fun c78 => ?_)
          · refine e_iconst (v := 0) dX2_step_85 rfl ?_
            refine e_istore_n (L' := [some (.ref 18), some (.int (m 19 p)), some (.int 0)]) dX2_step_86 (Nat.le_of_ble_eq_true rfl) (Nat.le_of_ble_eq_true rfl) (jnl_at (i := 1) rfl) rfl ?_
            refine e_aload_n dX2_step_87 rfl ?_
            refine e_iload_n dX2_step_88 rfl ?_
            refine e_if_eq 96 dX2_step_89 (by decide) (fun c89 => ?_) (fun h => absurd h (by decide))
            refine e_bipush (v := -2) dX2_step_96 rfl ?_
            refine e_putI dX2_step_98 lkX2_25 rfl rfl fwX2_4 (Or.inl rfl) (fun mt hmt => ?_)
            exact e_vret dX2_step_101 rfl (by
          have d0 := dg_zero (by omega) q
          refine ⟨⟨fun c a => by rw [hmt, jup_n _ _ a, hmn, jup_n _ _ a, hma, jup_n _ _ a], by rw [hmt, jup_s, upd_n _ _ (by decide), hmn, jup_s, upd_n _ _ (by decide), hma, jup_s, upd_n _ _ (by decide)]⟩, by rw [hmt, jup_s, upd_n _ _ (by decide), hmn, jup_s, upd_n _ _ (by decide), hma, jup_s, upd_s], ?_, ?_, fun h2 => ?_, by rw [hmt, jup_s, upd_n _ _ (by decide), hmn, jup_s, upd_n _ _ (by decide), hma, jup_s, upd_n _ _ (by decide)]⟩
          · rw [hmt, jup_s, upd_n _ _ (by decide), hmn, jup_s, upd_s]
            unfold tkQ; rw [d0, if_neg (by decide), if_neg (by omega)]
          · rw [hmt, jup_s, upd_s]
            unfold tokC; rw [d0, if_neg (by decide), if_neg (by omega)]
            first
              | rw [if_pos (isLt_1 ⟨Int32.not_lt.mp c60, Int32.not_lt.mp c66⟩)]
              | rw [if_pos (isLt_1 ⟨Int32.not_lt.mp c60, c66⟩)]
              | rw [if_pos (isLt_2 (by first | exact c72 | exact Classical.byContradiction c72))]
              | rw [if_pos (isLt_3 (by first | exact c78 | exact Classical.byContradiction c78))]
              | rw [if_neg (isLt_f (fun z => by first | exact absurd z.1 (Int32.not_le.mpr c60) | exact c66 z.2) c72 c78)]
          · unfold tkT at h2; rw [d0, if_neg (by decide), if_neg (by omega)] at h2; split at h2 <;> exact absurd h2 (by decide))
          · refine e_iconst (v := 1) dX2_step_81 rfl ?_
            refine e_goto 86 dX2_step_82 (by decide) ?_
            refine e_istore_n (L' := [some (.ref 18), some (.int (m 19 p)), some (.int 1)]) dX2_step_86 (Nat.le_of_ble_eq_true rfl) (Nat.le_of_ble_eq_true rfl) (jnl_at (i := 1) rfl) rfl ?_
            refine e_aload_n dX2_step_87 rfl ?_
            refine e_iload_n dX2_step_88 rfl ?_
            refine e_if_eq 96 dX2_step_89 (by decide) (fun h => absurd h (by decide)) (fun c89 => ?_)
            refine e_iload_n dX2_step_92 rfl ?_
            refine e_goto 98 dX2_step_93 (by decide) ?_
            refine e_putI dX2_step_98 lkX2_25 rfl rfl fwX2_4 (Or.inl rfl) (fun mt hmt => ?_)
            exact e_vret dX2_step_101 rfl (by
          have d0 := dg_zero (by omega) q
          refine ⟨⟨fun c a => by rw [hmt, jup_n _ _ a, hmn, jup_n _ _ a, hma, jup_n _ _ a], by rw [hmt, jup_s, upd_n _ _ (by decide), hmn, jup_s, upd_n _ _ (by decide), hma, jup_s, upd_n _ _ (by decide)]⟩, by rw [hmt, jup_s, upd_n _ _ (by decide), hmn, jup_s, upd_n _ _ (by decide), hma, jup_s, upd_s], ?_, ?_, fun h2 => ?_, by rw [hmt, jup_s, upd_n _ _ (by decide), hmn, jup_s, upd_n _ _ (by decide), hma, jup_s, upd_n _ _ (by decide)]⟩
          · rw [hmt, jup_s, upd_n _ _ (by decide), hmn, jup_s, upd_s]
            unfold tkQ; rw [d0, if_neg (by decide), if_neg (by omega)]
          · rw [hmt, jup_s, upd_s]
            unfold tokC; rw [d0, if_neg (by decide), if_neg (by omega)]
            first
              | rw [if_pos (isLt_1 ⟨Int32.not_lt.mp c60, Int32.not_lt.mp c66⟩)]
              | rw [if_pos (isLt_1 ⟨Int32.not_lt.mp c60, c66⟩)]
              | rw [if_pos (isLt_2 (by first | exact c72 | exact Classical.byContradiction c72))]
              | rw [if_pos (isLt_3 (by first | exact c78 | exact Classical.byContradiction c78))]
              | rw [if_neg (isLt_f (fun z => by first | exact absurd z.1 (Int32.not_le.mpr c60) | exact c66 z.2) c72 c78)]
          · unfold tkT at h2; rw [d0, if_neg (by decide), if_neg (by omega)] at h2; split at h2 <;> exact absurd h2 (by decide))
      · refine e_iload_n dX2_step_63 rfl ?_
        refine e_bipush (v := 122) dX2_step_64 rfl ?_
        refine e_icmp_le 81 dX2_step_66 (by decide) (fun c66 => ?_) (fun c66 => ?_)
        · refine e_iconst (v := 1) dX2_step_81 rfl ?_
          refine e_goto 86 dX2_step_82 (by decide) ?_
          refine e_istore_n (L' := [some (.ref 18), some (.int (m 19 p)), some (.int 1)]) dX2_step_86 (Nat.le_of_ble_eq_true rfl) (Nat.le_of_ble_eq_true rfl) (jnl_at (i := 1) rfl) rfl ?_
          refine e_aload_n dX2_step_87 rfl ?_
          refine e_iload_n dX2_step_88 rfl ?_
          refine e_if_eq 96 dX2_step_89 (by decide) (fun h => absurd h (by decide)) (fun c89 => ?_)
          refine e_iload_n dX2_step_92 rfl ?_
          refine e_goto 98 dX2_step_93 (by decide) ?_
          refine e_putI dX2_step_98 lkX2_25 rfl rfl fwX2_4 (Or.inl rfl) (fun mt hmt => ?_)
          exact e_vret dX2_step_101 rfl (by
          have d0 := dg_zero (by omega) q
          refine ⟨⟨fun c a => by rw [hmt, jup_n _ _ a, hmn, jup_n _ _ a, hma, jup_n _ _ a], by rw [hmt, jup_s, upd_n _ _ (by decide), hmn, jup_s, upd_n _ _ (by decide), hma, jup_s, upd_n _ _ (by decide)]⟩, by rw [hmt, jup_s, upd_n _ _ (by decide), hmn, jup_s, upd_n _ _ (by decide), hma, jup_s, upd_s], ?_, ?_, fun h2 => ?_, by rw [hmt, jup_s, upd_n _ _ (by decide), hmn, jup_s, upd_n _ _ (by decide), hma, jup_s, upd_n _ _ (by decide)]⟩
          · rw [hmt, jup_s, upd_n _ _ (by decide), hmn, jup_s, upd_s]
            unfold tkQ; rw [d0, if_neg (by decide), if_neg (by omega)]
          · rw [hmt, jup_s, upd_s]
            unfold tokC; rw [d0, if_neg (by decide), if_neg (by omega)]
            first
              | rw [if_pos (isLt_1 ⟨Int32.not_lt.mp c60, Int32.not_lt.mp c66⟩)]
              | rw [if_pos (isLt_1 ⟨Int32.not_lt.mp c60, c66⟩)]
              | rw [if_pos (isLt_2 (by first | exact c72 | exact Classical.byContradiction c72))]
              | rw [if_pos (isLt_3 (by first | exact c78 | exact Classical.byContradiction c78))]
              | rw [if_neg (isLt_f (fun z => by first | exact absurd z.1 (Int32.not_le.mpr c60) | exact c66 z.2) c72 c78)]
          · unfold tkT at h2; rw [d0, if_neg (by decide), if_neg (by omega)] at h2; split at h2 <;> exact absurd h2 (by decide))
        · refine e_iload_n dX2_step_69 rfl ?_
          refine e_bipush (v := 44) dX2_step_70 rfl ?_
          refine e_icmp_eq 81 dX2_step_72 (by decide) (fun c72 => ?_) (fun c72 => ?_)
          · refine e_iconst (v := 1) dX2_step_81 rfl ?_
            refine e_goto 86 dX2_step_82 (by decide) ?_
            refine e_istore_n (L' := [some (.ref 18), some (.int (m 19 p)), some (.int 1)]) dX2_step_86 (Nat.le_of_ble_eq_true rfl) (Nat.le_of_ble_eq_true rfl) (jnl_at (i := 1) rfl) rfl ?_
            refine e_aload_n dX2_step_87 rfl ?_
            refine e_iload_n dX2_step_88 rfl ?_
            refine e_if_eq 96 dX2_step_89 (by decide) (fun h => absurd h (by decide)) (fun c89 => ?_)
            refine e_iload_n dX2_step_92 rfl ?_
            refine e_goto 98 dX2_step_93 (by decide) ?_
            refine e_putI dX2_step_98 lkX2_25 rfl rfl fwX2_4 (Or.inl rfl) (fun mt hmt => ?_)
            exact e_vret dX2_step_101 rfl (by
          have d0 := dg_zero (by omega) q
          refine ⟨⟨fun c a => by rw [hmt, jup_n _ _ a, hmn, jup_n _ _ a, hma, jup_n _ _ a], by rw [hmt, jup_s, upd_n _ _ (by decide), hmn, jup_s, upd_n _ _ (by decide), hma, jup_s, upd_n _ _ (by decide)]⟩, by rw [hmt, jup_s, upd_n _ _ (by decide), hmn, jup_s, upd_n _ _ (by decide), hma, jup_s, upd_s], ?_, ?_, fun h2 => ?_, by rw [hmt, jup_s, upd_n _ _ (by decide), hmn, jup_s, upd_n _ _ (by decide), hma, jup_s, upd_n _ _ (by decide)]⟩
          · rw [hmt, jup_s, upd_n _ _ (by decide), hmn, jup_s, upd_s]
            unfold tkQ; rw [d0, if_neg (by decide), if_neg (by omega)]
          · rw [hmt, jup_s, upd_s]
            unfold tokC; rw [d0, if_neg (by decide), if_neg (by omega)]
            first
              | rw [if_pos (isLt_1 ⟨Int32.not_lt.mp c60, Int32.not_lt.mp c66⟩)]
              | rw [if_pos (isLt_1 ⟨Int32.not_lt.mp c60, c66⟩)]
              | rw [if_pos (isLt_2 (by first | exact c72 | exact Classical.byContradiction c72))]
              | rw [if_pos (isLt_3 (by first | exact c78 | exact Classical.byContradiction c78))]
              | rw [if_neg (isLt_f (fun z => by first | exact absurd z.1 (Int32.not_le.mpr c60) | exact c66 z.2) c72 c78)]
          · unfold tkT at h2; rw [d0, if_neg (by decide), if_neg (by omega)] at h2; split at h2 <;> exact absurd h2 (by decide))
          · refine e_iload_n dX2_step_75 rfl ?_
            refine e_bipush (v := 59) dX2_step_76 rfl ?_
            refine e_icmp_ne 85 dX2_step_78 (by decide) (fun c78 => ?_) (fun c78 => ?_)
            · refine e_iconst (v := 0) dX2_step_85 rfl ?_
              refine e_istore_n (L' := [some (.ref 18), some (.int (m 19 p)), some (.int 0)]) dX2_step_86 (Nat.le_of_ble_eq_true rfl) (Nat.le_of_ble_eq_true rfl) (jnl_at (i := 1) rfl) rfl ?_
              refine e_aload_n dX2_step_87 rfl ?_
              refine e_iload_n dX2_step_88 rfl ?_
              refine e_if_eq 96 dX2_step_89 (by decide) (fun c89 => ?_) (fun h => absurd h (by decide))
              refine e_bipush (v := -2) dX2_step_96 rfl ?_
              refine e_putI dX2_step_98 lkX2_25 rfl rfl fwX2_4 (Or.inl rfl) (fun mt hmt => ?_)
              exact e_vret dX2_step_101 rfl (by
          have d0 := dg_zero (by omega) q
          refine ⟨⟨fun c a => by rw [hmt, jup_n _ _ a, hmn, jup_n _ _ a, hma, jup_n _ _ a], by rw [hmt, jup_s, upd_n _ _ (by decide), hmn, jup_s, upd_n _ _ (by decide), hma, jup_s, upd_n _ _ (by decide)]⟩, by rw [hmt, jup_s, upd_n _ _ (by decide), hmn, jup_s, upd_n _ _ (by decide), hma, jup_s, upd_s], ?_, ?_, fun h2 => ?_, by rw [hmt, jup_s, upd_n _ _ (by decide), hmn, jup_s, upd_n _ _ (by decide), hma, jup_s, upd_n _ _ (by decide)]⟩
          · rw [hmt, jup_s, upd_n _ _ (by decide), hmn, jup_s, upd_s]
            unfold tkQ; rw [d0, if_neg (by decide), if_neg (by omega)]
          · rw [hmt, jup_s, upd_s]
            unfold tokC; rw [d0, if_neg (by decide), if_neg (by omega)]
            first
              | rw [if_pos (isLt_1 ⟨Int32.not_lt.mp c60, Int32.not_lt.mp c66⟩)]
              | rw [if_pos (isLt_1 ⟨Int32.not_lt.mp c60, c66⟩)]
              | rw [if_pos (isLt_2 (by first | exact c72 | exact Classical.byContradiction c72))]
              | rw [if_pos (isLt_3 (by first | exact c78 | exact Classical.byContradiction c78))]
              | rw [if_neg (isLt_f (fun z => by first | exact absurd z.1 (Int32.not_le.mpr c60) | exact c66 z.2) c72 c78)]
          · unfold tkT at h2; rw [d0, if_neg (by decide), if_neg (by omega)] at h2; split at h2 <;> exact absurd h2 (by decide))
            · refine e_iconst (v := 1) dX2_step_81 rfl ?_
              refine e_goto 86 dX2_step_82 (by decide) ?_
              refine e_istore_n (L' := [some (.ref 18), some (.int (m 19 p)), some (.int 1)]) dX2_step_86 (Nat.le_of_ble_eq_true rfl) (Nat.le_of_ble_eq_true rfl) (jnl_at (i := 1) rfl) rfl ?_
              refine e_aload_n dX2_step_87 rfl ?_
              refine e_iload_n dX2_step_88 rfl ?_
              refine e_if_eq 96 dX2_step_89 (by decide) (fun h => absurd h (by decide)) (fun c89 => ?_)
              refine e_iload_n dX2_step_92 rfl ?_
              refine e_goto 98 dX2_step_93 (by decide) ?_
              refine e_putI dX2_step_98 lkX2_25 rfl rfl fwX2_4 (Or.inl rfl) (fun mt hmt => ?_)
              exact e_vret dX2_step_101 rfl (by
          have d0 := dg_zero (by omega) q
          refine ⟨⟨fun c a => by rw [hmt, jup_n _ _ a, hmn, jup_n _ _ a, hma, jup_n _ _ a], by rw [hmt, jup_s, upd_n _ _ (by decide), hmn, jup_s, upd_n _ _ (by decide), hma, jup_s, upd_n _ _ (by decide)]⟩, by rw [hmt, jup_s, upd_n _ _ (by decide), hmn, jup_s, upd_n _ _ (by decide), hma, jup_s, upd_s], ?_, ?_, fun h2 => ?_, by rw [hmt, jup_s, upd_n _ _ (by decide), hmn, jup_s, upd_n _ _ (by decide), hma, jup_s, upd_n _ _ (by decide)]⟩
          · rw [hmt, jup_s, upd_n _ _ (by decide), hmn, jup_s, upd_s]
            unfold tkQ; rw [d0, if_neg (by decide), if_neg (by omega)]
          · rw [hmt, jup_s, upd_s]
            unfold tokC; rw [d0, if_neg (by decide), if_neg (by omega)]
            first
              | rw [if_pos (isLt_1 ⟨Int32.not_lt.mp c60, Int32.not_lt.mp c66⟩)]
              | rw [if_pos (isLt_1 ⟨Int32.not_lt.mp c60, c66⟩)]
              | rw [if_pos (isLt_2 (by first | exact c72 | exact Classical.byContradiction c72))]
              | rw [if_pos (isLt_3 (by first | exact c78 | exact Classical.byContradiction c78))]
              | rw [if_neg (isLt_f (fun z => by first | exact absurd z.1 (Int32.not_le.mpr c60) | exact c66 z.2) c72 c78)]
          · unfold tkT at h2; rw [d0, if_neg (by decide), if_neg (by omega)] at h2; split at h2 <;> exact absurd h2 (by decide))
  · refine e_aload_n dX2_step_19 rfl ?_
    refine e_iconst (v := -1) dX2_step_20 rfl ?_
    refine e_putI dX2_step_21 lkX2_25 rfl rfl fwX2_4 (Or.inl rfl) (fun mb hmb => ?_)
    exact e_vret dX2_step_24 rfl (by
        have pl : p = len := by have := (j_le (a := len) (b := p) (by omega) (by omega)).mp (Int32.not_lt.mp c16); omega
        refine ⟨⟨fun c a => by rw [hmb, jup_n _ _ a, hma, jup_n _ _ a], by rw [hmb, jup_s, upd_n _ _ (by decide), hma, jup_s, upd_n _ _ (by decide)]⟩, by rw [hmb, jup_s, upd_n _ _ (by decide), hma, jup_s, upd_s], ?_, ?_, fun h2 => ?_, by rw [hmb, jup_s, upd_n _ _ (by decide), hma, jup_s, upd_n _ _ (by decide)]⟩
        · rw [hmb, jup_s, upd_n _ _ (by decide), hma, jup_s, upd_n _ _ (by decide), hn]
          unfold tkQ; rw [pl, dg_end, if_neg (by decide), if_pos rfl]
        · rw [hmb, jup_s, upd_s]
          unfold tokC; rw [pl, dg_end, if_neg (by decide), if_pos rfl]
        · unfold tkT at h2; rw [pl, dg_end, if_neg (by decide), if_pos rfl] at h2; exact absurd h2 (by decide))

set_option maxHeartbeats 2000000 in
set_option maxRecDepth 20000 in
theorem s_take_ (m : jM) (len : Nat) (hl : len ≤ 120) (r : CR) (hr : ST m len r) (c : Int32) : vX mX2_take [.ref 18, .int c] m (fun m1 => XF m m1 ∧ ST m1 len (stC (m 19) len c r)) := by
  refine jX_of (L := [some (.ref 18), some (.int c)]) 0 rfl rfl (by decide +kernel) rfl ?_
  rcases r with ⟨e, q⟩ | p
  · obtain ⟨he, hf, hq⟩ := hr.2
    refine e_aload_n dX2_take_0 rfl ?_
    refine e_getI dX2_take_1 lkX2_31 rfl rfl ?_
    rw [show m 18 6 = e from hf]
    refine e_if_eq 8 dX2_take_4 (by decide) (fun h => absurd h he) (fun c4 => ?_)
    exact e_vret dX2_take_7 rfl (⟨XF.rf, hr.1, he, hf, hq⟩)
  · obtain ⟨hp, hf, hr2⟩ := hr.2
    refine e_aload_n dX2_take_0 rfl ?_
    refine e_getI dX2_take_1 lkX2_31 rfl rfl ?_
    rw [show m 18 6 = 0 from hf]
    refine e_if_eq 8 dX2_take_4 (by decide) (fun c4 => ?_) (fun h => absurd h (by decide))
    refine e_aload_n dX2_take_8 rfl ?_
    refine e_getI dX2_take_9 lkX2_25 rfl rfl ?_
    rw [show m 18 4 = tokC (m 19) len p from hr2.2.2.1]
    refine e_iload_n dX2_take_12 rfl ?_
    refine e_icmp_ne 23 dX2_take_13 (by decide) (fun c13 => ?_) (fun c13 => ?_)
    · refine e_aload_n dX2_take_23 rfl ?_
      refine e_iconst (v := 1) dX2_take_24 rfl ?_
      refine e_putI dX2_take_25 lkX2_31 rfl rfl fwX2_6 (Or.inl rfl) (fun me hme => ?_)
      exact e_vret dX2_take_28 rfl (⟨⟨fun c a => by rw [hme, jup_n _ _ a], by rw [hme, jup_s, upd_n _ _ (by decide)]⟩, by unfold stC; dsimp only; rw [if_neg c13]; exact ⟨by rw [hme, jup_s, upd_n _ _ (by decide)]; exact hr.1, by decide, by rw [hme, jup_s, upd_s], by rw [hme, jup_s, upd_n _ _ (by decide)]; exact hr2.1⟩⟩)
    · refine e_aload_n dX2_take_16 rfl ?_
      refine e_callVv (n := 0) mX2_step [] dX2_take_17 ckX2_39 rfl (by decide +kernel) rfl rfl rfl rfl (Nat.le_of_ble_eq_true rfl) ⟨Nat.zero_le _, Nat.zero_le _⟩ (s_step m len (tkQ (m 19) len p) hl (tkQ_le hp).2 hr.1 hr2.2.1) (fun mz hmz => ?_)
      refine e_goto 28 dX2_take_20 (by decide) ?_
      exact e_vret dX2_take_28 rfl (⟨hmz.1, by unfold stC; dsimp only; rw [if_pos (by first | exact c13 | exact Classical.byContradiction c13)]; exact ⟨hmz.1.2.trans hr.1, (tkQ_le hp).2, hmz.2.2.2.2.2.trans hf, by unfold tokS; rw [hmz.1.1 19 (by decide)]; exact ⟨hmz.2.1, hmz.2.2.1, hmz.2.2.2.1, hmz.2.2.2.2.1⟩⟩⟩)

set_option maxHeartbeats 2000000 in
set_option maxRecDepth 20000 in
theorem s_takeNum (m : jM) (len : Nat) (hl : len ≤ 120) (r : CR) (hr : ST m len r) (lo hi : Int32) : iX mX2_takeNumber [.ref 18, .int lo, .int hi] m (fun v m1 => v = nvC (m 19) len lo hi r ∧ XF m m1 ∧ ST m1 len (nmC (m 19) len lo hi r)) := by
  refine jX_of (L := [some (.ref 18), some (.int lo), some (.int hi), none]) 1 rfl rfl (by decide +kernel) rfl ?_
  rcases r with ⟨e, q⟩ | p
  · obtain ⟨he, hf, hq⟩ := hr.2
    refine e_aload_n dX2_takeNumber_0 rfl ?_
    refine e_getI dX2_takeNumber_1 lkX2_31 rfl rfl ?_
    rw [show m 18 6 = e from hf]
    refine e_if_eq 9 dX2_takeNumber_4 (by decide) (fun h => absurd h he) (fun c4 => ?_)
    refine e_iload_n dX2_takeNumber_7 rfl ?_
    exact e_iret dX2_takeNumber_8 rfl (⟨rfl, XF.rf, hr.1, he, hf, hq⟩)
  · obtain ⟨hp, hf, hr2⟩ := hr.2
    refine e_aload_n dX2_takeNumber_0 rfl ?_
    refine e_getI dX2_takeNumber_1 lkX2_31 rfl rfl ?_
    rw [show m 18 6 = 0 from hf]
    refine e_if_eq 9 dX2_takeNumber_4 (by decide) (fun c4 => ?_) (fun h => absurd h (by decide))
    refine e_aload_n dX2_takeNumber_9 rfl ?_
    refine e_getI dX2_takeNumber_10 lkX2_25 rfl rfl ?_
    rw [show m 18 4 = tokC (m 19) len p from hr2.2.2.1]
    refine e_bipush (v := -3) dX2_takeNumber_13 rfl ?_
    refine e_icmp_eq 25 dX2_takeNumber_15 (by decide) (fun c15 => ?_) (fun c15 => ?_)
    · have h2 : tkT (m 19) len p = 2 := tokC_n.mp c15
      refine e_aload_n dX2_takeNumber_25 rfl ?_
      refine e_getI dX2_takeNumber_26 lkX2_28 rfl rfl ?_
      rw [show m 18 5 = tkW (m 19) len p from hr2.2.2.2 h2]
      refine e_iload_n dX2_takeNumber_29 rfl ?_
      refine e_icmp_lt 41 dX2_takeNumber_30 (by decide) (fun c30 => ?_) (fun c30 => ?_)
      · refine e_aload_n dX2_takeNumber_41 rfl ?_
        refine e_iconst (v := 2) dX2_takeNumber_42 rfl ?_
        refine e_putI dX2_takeNumber_43 lkX2_31 rfl rfl fwX2_6 (Or.inl rfl) (fun me hme => ?_)
        refine e_iload_n dX2_takeNumber_46 rfl ?_
        exact e_iret dX2_takeNumber_47 rfl (⟨by unfold nvC; dsimp only; rw [if_pos h2, if_neg (fun z => by first | exact absurd z.1 (Int32.not_le.mpr c30) | exact c38 z.2)], ⟨fun c a => by rw [hme, jup_n _ _ a], by rw [hme, jup_s, upd_n _ _ (by decide)]⟩, by unfold nmC; dsimp only; rw [if_pos h2, if_neg (fun z => by first | exact absurd z.1 (Int32.not_le.mpr c30) | exact c38 z.2)]; exact ⟨by rw [hme, jup_s, upd_n _ _ (by decide)]; exact hr.1, by decide, by rw [hme, jup_s, upd_s], by rw [hme, jup_s, upd_n _ _ (by decide)]; exact hr2.1⟩⟩)
      · refine e_aload_n dX2_takeNumber_33 rfl ?_
        refine e_getI dX2_takeNumber_34 lkX2_28 rfl rfl ?_
        rw [show m 18 5 = tkW (m 19) len p from hr2.2.2.2 h2]
        refine e_iload_n dX2_takeNumber_37 rfl ?_
        refine e_icmp_le 48 dX2_takeNumber_38 (by decide) (fun c38 => ?_) (fun c38 => ?_)
        · refine e_aload_n dX2_takeNumber_48 rfl ?_
          refine e_getI dX2_takeNumber_49 lkX2_28 rfl rfl ?_
          rw [show m 18 5 = tkW (m 19) len p from hr2.2.2.2 h2]
          refine e_istore_n (L' := [some (.ref 18), some (.int lo), some (.int hi), some (.int (tkW (m 19) len p))]) dX2_takeNumber_52 (Nat.le_of_ble_eq_true rfl) (Nat.le_of_ble_eq_true rfl) (jnl_at (i := 2) rfl) rfl ?_
          refine e_aload_n dX2_takeNumber_53 rfl ?_
          refine e_callVv (n := 0) mX2_step [] dX2_takeNumber_54 ckX2_39 rfl (by decide +kernel) rfl rfl rfl rfl (Nat.le_of_ble_eq_true rfl) ⟨Nat.zero_le _, Nat.zero_le _⟩ (s_step m len (tkQ (m 19) len p) hl (tkQ_le hp).2 hr.1 hr2.2.1) (fun mz hmz => ?_)
          refine e_iload_n dX2_takeNumber_57 rfl ?_
          exact e_iret dX2_takeNumber_58 rfl (⟨by unfold nvC; dsimp only; rw [if_pos h2, if_pos ⟨Int32.not_lt.mp c30, c38⟩], hmz.1, by unfold nmC; dsimp only; rw [if_pos h2, if_pos ⟨Int32.not_lt.mp c30, c38⟩]; exact ⟨hmz.1.2.trans hr.1, (tkQ_le hp).2, hmz.2.2.2.2.2.trans hf, by unfold tokS; rw [hmz.1.1 19 (by decide)]; exact ⟨hmz.2.1, hmz.2.2.1, hmz.2.2.2.1, hmz.2.2.2.2.1⟩⟩⟩)
        · refine e_aload_n dX2_takeNumber_41 rfl ?_
          refine e_iconst (v := 2) dX2_takeNumber_42 rfl ?_
          refine e_putI dX2_takeNumber_43 lkX2_31 rfl rfl fwX2_6 (Or.inl rfl) (fun me hme => ?_)
          refine e_iload_n dX2_takeNumber_46 rfl ?_
          exact e_iret dX2_takeNumber_47 rfl (⟨by unfold nvC; dsimp only; rw [if_pos h2, if_neg (fun z => by first | exact absurd z.1 (Int32.not_le.mpr c30) | exact c38 z.2)], ⟨fun c a => by rw [hme, jup_n _ _ a], by rw [hme, jup_s, upd_n _ _ (by decide)]⟩, by unfold nmC; dsimp only; rw [if_pos h2, if_neg (fun z => by first | exact absurd z.1 (Int32.not_le.mpr c30) | exact c38 z.2)]; exact ⟨by rw [hme, jup_s, upd_n _ _ (by decide)]; exact hr.1, by decide, by rw [hme, jup_s, upd_s], by rw [hme, jup_s, upd_n _ _ (by decide)]; exact hr2.1⟩⟩)
    · have h2 : ¬ tkT (m 19) len p = 2 := fun z => c15 (tokC_n.mpr z)
      refine e_aload_n dX2_takeNumber_18 rfl ?_
      refine e_iconst (v := 1) dX2_takeNumber_19 rfl ?_
      refine e_putI dX2_takeNumber_20 lkX2_31 rfl rfl fwX2_6 (Or.inl rfl) (fun me hme => ?_)
      refine e_iload_n dX2_takeNumber_23 rfl ?_
      exact e_iret dX2_takeNumber_24 rfl (⟨by unfold nvC; dsimp only; rw [if_neg h2], ⟨fun c a => by rw [hme, jup_n _ _ a], by rw [hme, jup_s, upd_n _ _ (by decide)]⟩, by unfold nmC; dsimp only; rw [if_neg h2]; exact ⟨by rw [hme, jup_s, upd_n _ _ (by decide)]; exact hr.1, by decide, by rw [hme, jup_s, upd_s], by rw [hme, jup_s, upd_n _ _ (by decide)]; exact hr2.1⟩⟩)
