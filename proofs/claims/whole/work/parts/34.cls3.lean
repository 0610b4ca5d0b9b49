set_option maxHeartbeats 2000000 in
set_option maxRecDepth 20000 in
theorem s_isNot (m : jM) (x y : Int32) : iX mX3_isNot [.int x, .int y] m (fun v m1 => m = m1 ∧ isB v (x < 0 ∨ y ≤ x)) := by
  refine jX_of (L := [some (.int x), some (.int y)]) 0 rfl rfl (by decide +kernel) rfl ?_
  refine e_iload_n dX3_isNot_0 rfl ?_
  refine e_if_lt 9 dX3_isNot_1 (by decide) (fun c1 => ?_) (fun c1 => ?_)
  · refine e_iconst (v := 1) dX3_isNot_9 rfl ?_
    refine e_goto 14 dX3_isNot_10 (by decide) ?_
    exact e_zret dX3_isNot_14 rfl (by decide) (⟨rfl, by first | exact isB.t (Or.inl c1) | exact isB.t (Or.inr (Int32.not_lt.mp c6)) | exact isB.f (fun z => z.elim c1 (fun w => absurd c6 (Int32.not_lt.mpr w)))⟩)
  · refine e_iload_n dX3_isNot_4 rfl ?_
    refine e_iload_n dX3_isNot_5 rfl ?_
    refine e_icmp_lt 13 dX3_isNot_6 (by decide) (fun c6 => ?_) (fun c6 => ?_)
    · refine e_iconst (v := 0) dX3_isNot_13 rfl ?_
      exact e_zret dX3_isNot_14 rfl (by decide) (⟨rfl, by first | exact isB.t (Or.inl c1) | exact isB.t (Or.inr (Int32.not_lt.mp c6)) | exact isB.f (fun z => z.elim c1 (fun w => absurd c6 (Int32.not_lt.mpr w)))⟩)
    · refine e_iconst (v := 1) dX3_isNot_9 rfl ?_
      refine e_goto 14 dX3_isNot_10 (by decide) ?_
      exact e_zret dX3_isNot_14 rfl (by decide) (⟨rfl, by first | exact isB.t (Or.inl c1) | exact isB.t (Or.inr (Int32.not_lt.mp c6)) | exact isB.f (fun z => z.elim c1 (fun w => absurd c6 (Int32.not_lt.mpr w)))⟩)

set_option maxHeartbeats 2000000 in
set_option maxRecDepth 20000 in
theorem s_found (m : jM) (x : Int32) : iX mX3_found [.ref 0, .int x] m (fun v m1 => v = -1000010 - x ∧ jup m 0 (upd (m 0) 17 x) = m1) := by
  refine jX_of (L := [some (.ref 0), some (.int x)]) 0 rfl rfl (by decide +kernel) rfl ?_
  refine e_aload_n dX3_found_0 rfl ?_
  refine e_iload_n dX3_found_1 rfl ?_
  refine e_putI dX3_found_2 lkX3_76 rfl rfl fwX3_17 (Or.inl rfl) (fun ma hma => ?_)
  refine e_ldcw dX3_found_5 kkX3_263 ?_
  refine e_iload_n dX3_found_8 rfl ?_
  refine e_isub dX3_found_9 ?_
  exact e_iret dX3_found_10 rfl (⟨rfl, hma.symm⟩)

set_option maxHeartbeats 2000000 in
set_option maxRecDepth 20000 in
theorem s_fine (m : jM) (x : Int32) : iX mX3_fine [.ref 0, .int x] m (fun v m1 => v = x ∧ jup m 0 (upd (m 0) 17 0) = m1) := by
  refine jX_of (L := [some (.ref 0), some (.int x)]) 0 rfl rfl (by decide +kernel) rfl ?_
  refine e_aload_n dX3_fine_0 rfl ?_
  refine e_iconst (v := 0) dX3_fine_1 rfl ?_
  refine e_putI dX3_fine_2 lkX3_76 rfl rfl fwX3_17 (Or.inl rfl) (fun ma hma => ?_)
  refine e_iload_n dX3_fine_5 rfl ?_
  exact e_iret dX3_fine_6 rfl (⟨rfl, hma.symm⟩)
