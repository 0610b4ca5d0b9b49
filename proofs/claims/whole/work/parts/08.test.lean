set_option maxHeartbeats 2000000 in
set_option maxRecDepth 20000 in
theorem s_isNot (a b : Int32) (m : jM) : iX mX3_isNot [.int a, .int b] m (fun v m1 => m1 = m ∧ (v = 1 ∧ (a < 0 ∨ b ≤ a) ∨ v = 0 ∧ ¬ a < 0 ∧ a < b)) := by
  refine jX_of (L := [some (.int a), some (.int b)]) 0 rfl (by decide) (by decide +kernel) rfl ?_
  refine e_iload_n dX3_isNot_0 rfl ?_
  refine e_if_lt 9 dX3_isNot_1 (by decide) (fun c1 => ?_) (fun c1 => ?_)
  · refine e_iconst (v := 1) dX3_isNot_9 rfl ?_
    refine e_goto 14 dX3_isNot_10 (by decide) ?_
    exact e_zret dX3_isNot_14 rfl (by decide) (⟨rfl, by first | exact Or.inl ⟨rfl, by first | exact Or.inl (by assumption) | exact Or.inr (Int32.not_lt.mp (by assumption))⟩ | exact Or.inr ⟨rfl, by assumption, by assumption⟩⟩)
  · refine e_iload_n dX3_isNot_4 rfl ?_
    refine e_iload_n dX3_isNot_5 rfl ?_
    refine e_icmp_lt 13 dX3_isNot_6 (by decide) (fun c6 => ?_) (fun c6 => ?_)
    · refine e_iconst (v := 0) dX3_isNot_13 rfl ?_
      exact e_zret dX3_isNot_14 rfl (by decide) (⟨rfl, by first | exact Or.inl ⟨rfl, by first | exact Or.inl (by assumption) | exact Or.inr (Int32.not_lt.mp (by assumption))⟩ | exact Or.inr ⟨rfl, by assumption, by assumption⟩⟩)
    · refine e_iconst (v := 1) dX3_isNot_9 rfl ?_
      refine e_goto 14 dX3_isNot_10 (by decide) ?_
      exact e_zret dX3_isNot_14 rfl (by decide) (⟨rfl, by first | exact Or.inl ⟨rfl, by first | exact Or.inl (by assumption) | exact Or.inr (Int32.not_lt.mp (by assumption))⟩ | exact Or.inr ⟨rfl, by assumption, by assumption⟩⟩)

set_option maxHeartbeats 2000000 in
set_option maxRecDepth 20000 in
theorem s_isSet {kc : Nat} (hk : isK kc) (p : Nat) (hp : p < 5) (m : jM) : iX mX0_isSet [.ref kc, .int (nI p)] m (fun v m1 => m1 = m ∧ (v = 1 ∧ m (kc + 6) p ≤ m (kc + 9) p ∨ v = 0 ∧ m (kc + 9) p < m (kc + 6) p)) := by
  refine jX_of (L := [some (.ref kc), some (.int (nI p))]) 0 rfl (by decide) (by decide +kernel) rfl ?_
  refine e_aload_n dX0_isSet_0 rfl ?_
  refine e_getR (o := 9) (b := kc + 9) dX0_isSet_1 lkX0_53 (isK.l0 hk) rfl (by decide) rfl ?_
  refine e_iload_n dX0_isSet_4 rfl ?_
  refine e_iald dX0_isSet_5 (isK.l9 hk) p rfl (by omega) (by decide) ?_
  refine e_aload_n dX0_isSet_6 rfl ?_
  refine e_getR (o := 6) (b := kc + 6) dX0_isSet_7 lkX0_41 (isK.l0 hk) rfl (by decide) rfl ?_
  refine e_iload_n dX0_isSet_10 rfl ?_
  refine e_iald dX0_isSet_11 (isK.l6 hk) p rfl (by omega) (by decide) ?_
  refine e_icmp_lt 19 dX0_isSet_12 (by decide) (fun c12 => ?_) (fun c12 => ?_)
  · refine e_iconst (v := 0) dX0_isSet_19 rfl ?_
    exact e_zret dX0_isSet_20 rfl (by decide) (⟨rfl, by first | exact Or.inl ⟨rfl, Int32.not_lt.mp (by assumption)⟩ | exact Or.inr ⟨rfl, by assumption⟩⟩)
  · refine e_iconst (v := 1) dX0_isSet_15 rfl ?_
    refine e_goto 20 dX0_isSet_16 (by decide) ?_
    exact e_zret dX0_isSet_20 rfl (by decide) (⟨rfl, by first | exact Or.inl ⟨rfl, Int32.not_lt.mp (by assumption)⟩ | exact Or.inr ⟨rfl, by assumption⟩⟩)
