set_option maxHeartbeats 2000000 in
set_option maxRecDepth 20000 in
theorem s_reaches (m : jM) (r : Nat) (hr : r < 8) (i n : Int32) : iX mX1_reaches [.ref (2 + 2 * r), .int i, .int n] m (fun v m1 => m = m1 ∧ isB v (0 ≤ i ∧ 0 ≤ n ∧ i ≤ m (2 + 2 * r) 2 - n)) := by
  refine jX_of (L := [some (.ref (2 + 2 * r)), some (.int i), some (.int n)]) 0 rfl rfl (by decide +kernel) rfl ?_
  refine e_iload_n dX1_reaches_0 rfl ?_
  refine e_if_lt 22 dX1_reaches_1 (by decide) (fun c1 => ?_) (fun c1 => ?_)
  · refine e_iconst (v := 0) dX1_reaches_22 rfl ?_
    exact e_zret dX1_reaches_23 rfl (by decide) (⟨rfl, by first | exact isB.t ⟨Int32.not_lt.mp c1, Int32.not_lt.mp c5, Int32.not_lt.mp c15⟩ | exact isB.f (fun z => absurd c1 (Int32.not_lt.mpr z.1)) | exact isB.f (fun z => absurd c5 (Int32.not_lt.mpr z.2.1)) | exact isB.f (fun z => absurd c15 (Int32.not_lt.mpr z.2.2))⟩)
  · refine e_iload_n dX1_reaches_4 rfl ?_
    refine e_if_lt 22 dX1_reaches_5 (by decide) (fun c5 => ?_) (fun c5 => ?_)
    · refine e_iconst (v := 0) dX1_reaches_22 rfl ?_
      exact e_zret dX1_reaches_23 rfl (by decide) (⟨rfl, by first | exact isB.t ⟨Int32.not_lt.mp c1, Int32.not_lt.mp c5, Int32.not_lt.mp c15⟩ | exact isB.f (fun z => absurd c1 (Int32.not_lt.mpr z.1)) | exact isB.f (fun z => absurd c5 (Int32.not_lt.mpr z.2.1)) | exact isB.f (fun z => absurd c15 (Int32.not_lt.mpr z.2.2))⟩)
    · refine e_iload_n dX1_reaches_8 rfl ?_
      refine e_aload_n dX1_reaches_9 rfl ?_
      refine e_getI dX1_reaches_10 lkX1_19 (isR_l r hr) rfl ?_
      refine e_iload_n dX1_reaches_13 rfl ?_
      refine e_isub dX1_reaches_14 ?_
      refine e_icmp_gt 22 dX1_reaches_15 (by decide) (fun c15 => ?_) (fun c15 => ?_)
      · refine e_iconst (v := 0) dX1_reaches_22 rfl ?_
        exact e_zret dX1_reaches_23 rfl (by decide) (⟨rfl, by first | exact isB.t ⟨Int32.not_lt.mp c1, Int32.not_lt.mp c5, Int32.not_lt.mp c15⟩ | exact isB.f (fun z => absurd c1 (Int32.not_lt.mpr z.1)) | exact isB.f (fun z => absurd c5 (Int32.not_lt.mpr z.2.1)) | exact isB.f (fun z => absurd c15 (Int32.not_lt.mpr z.2.2))⟩)
      · refine e_iconst (v := 1) dX1_reaches_18 rfl ?_
        refine e_goto 23 dX1_reaches_19 (by decide) ?_
        exact e_zret dX1_reaches_23 rfl (by decide) (⟨rfl, by first | exact isB.t ⟨Int32.not_lt.mp c1, Int32.not_lt.mp c5, Int32.not_lt.mp c15⟩ | exact isB.f (fun z => absurd c1 (Int32.not_lt.mpr z.1)) | exact isB.f (fun z => absurd c5 (Int32.not_lt.mpr z.2.1)) | exact isB.f (fun z => absurd c15 (Int32.not_lt.mpr z.2.2))⟩)
