/-! ===== the class's kitchens, as they stand to the reference's row of numbers ===== -/
/-- the kitchen kc stands as the row st says, with V singers and P pans -/
def RK (m : jM) (kc : Nat) (st : Nat → Int32) (V P : Nat) : Prop := (m kc 1 = st 0) ∧ (m kc 2 = nI V) ∧ (m kc 6 = nI P) ∧ (m kc 10 = st 3) ∧ (∀ s, s < V → m (kc + 1) s = st (4 + s)) ∧ (∀ s, s < V → m (kc + 2) s = st (7 + s)) ∧ (∀ s, s < V → m (kc + 3) s = st (10 + s)) ∧ (∀ s, s < V → m (kc + 7) s = st (13 + s)) ∧ (∀ p, p < P → m (kc + 4) p = st (16 + p)) ∧ (∀ p, p < P → m (kc + 5) p = st (21 + p)) ∧ (∀ p, p < P → m (kc + 6) p = st (26 + p)) ∧ (∀ p, p < P → m (kc + 8) p = st (31 + p)) ∧ (∀ p, p < P → m (kc + 9) p = st (36 + p)) ∧ (∀ p, p < P → m (kc + 10) p = st (46 + p))
theorem RK.bk {m : jM} {kc : Nat} {st : Nat → Int32} {V P : Nat} (h : RK m kc st V P) : m kc 1 = st 0 := h.1
theorem RK.vs {m : jM} {kc : Nat} {st : Nat → Int32} {V P : Nat} (h : RK m kc st V P) : m kc 2 = nI V := h.2.1
theorem RK.ps {m : jM} {kc : Nat} {st : Nat → Int32} {V P : Nat} (h : RK m kc st V P) : m kc 6 = nI P := h.2.2.1
theorem RK.br {m : jM} {kc : Nat} {st : Nat → Int32} {V P : Nat} (h : RK m kc st V P) : m kc 10 = st 3 := h.2.2.2.1
theorem RK.lo {m : jM} {kc : Nat} {st : Nat → Int32} {V P : Nat} (h : RK m kc st V P) : ∀ s, s < V → m (kc + 1) s = st (4 + s) := h.2.2.2.2.1
theorem RK.hi {m : jM} {kc : Nat} {st : Nat → Int32} {V P : Nat} (h : RK m kc st V P) : ∀ s, s < V → m (kc + 2) s = st (7 + s) := h.2.2.2.2.2.1
theorem RK.bt {m : jM} {kc : Nat} {st : Nat → Int32} {V P : Nat} (h : RK m kc st V P) : ∀ s, s < V → m (kc + 3) s = st (10 + s) := h.2.2.2.2.2.2.1
theorem RK.sg {m : jM} {kc : Nat} {st : Nat → Int32} {V P : Nat} (h : RK m kc st V P) : ∀ s, s < V → m (kc + 7) s = st (13 + s) := h.2.2.2.2.2.2.2.1
theorem RK.kd {m : jM} {kc : Nat} {st : Nat → Int32} {V P : Nat} (h : RK m kc st V P) : ∀ p, p < P → m (kc + 4) p = st (16 + p) := h.2.2.2.2.2.2.2.2.1
theorem RK.md {m : jM} {kc : Nat} {st : Nat → Int32} {V P : Nat} (h : RK m kc st V P) : ∀ p, p < P → m (kc + 5) p = st (21 + p) := h.2.2.2.2.2.2.2.2.2.1
theorem RK.nd {m : jM} {kc : Nat} {st : Nat → Int32} {V P : Nat} (h : RK m kc st V P) : ∀ p, p < P → m (kc + 6) p = st (26 + p) := h.2.2.2.2.2.2.2.2.2.2.1
theorem RK.hr {m : jM} {kc : Nat} {st : Nat → Int32} {V P : Nat} (h : RK m kc st V P) : ∀ p, p < P → m (kc + 8) p = st (31 + p) := h.2.2.2.2.2.2.2.2.2.2.2.1
theorem RK.tk {m : jM} {kc : Nat} {st : Nat → Int32} {V P : Nat} (h : RK m kc st V P) : ∀ p, p < P → m (kc + 9) p = st (36 + p) := h.2.2.2.2.2.2.2.2.2.2.2.2.1
theorem RK.hd {m : jM} {kc : Nat} {st : Nat → Int32} {V P : Nat} (h : RK m kc st V P) : ∀ p, p < P → m (kc + 10) p = st (46 + p) := h.2.2.2.2.2.2.2.2.2.2.2.2.2
/-- what a kitchen's own doings leave as it was -/
def KF (kc : Nat) (m m1 : jM) : Prop := (∀ c, c < kc ∨ kc + 10 < c → m1 c = m c) ∧ m1 kc 0 = m kc 0
theorem KF.rf {kc : Nat} {m : jM} : KF kc m m := ⟨fun _ _ => rfl, rfl⟩
theorem KF.tr {kc : Nat} {m m1 m2 : jM} (h : KF kc m m1) (h2 : KF kc m1 m2) : KF kc m m2 := ⟨fun c a => (h2.1 c a).trans (h.1 c a), h2.2.trans h.2⟩
/-- a row that a run of calls can reach -/
def WK (st : Nat → Int32) (V P : Nat) : Prop := (V ≤ 3) ∧ (P ≤ 5) ∧ (1 ≤ st 0 ∧ st 0 ≤ 9) ∧ (∀ p, p < P → st (41 + p) = if st (26 + p) ≤ st (36 + p) then 1 else 0) ∧ (∀ p, p < P → st (26 + p) ≤ st (36 + p) → st (46 + p) = -1000000) ∧ (∀ p, p < P → st (46 + p) = -1000000 ∨ (0 ≤ st (46 + p) ∧ st (46 + p) < 7)) ∧ (∀ p, p < P → 0 ≤ st (36 + p) ∧ st (36 + p) ≤ 20) ∧ (∀ p, p < P → 1 ≤ st (26 + p) ∧ st (26 + p) ≤ 20) ∧ (∀ p, p < P → 1 ≤ st (16 + p) ∧ st (16 + p) ≤ 5) ∧ (∀ p, p < P → 0 ≤ st (21 + p) ∧ st (21 + p) ≤ 127) ∧ (∀ p, p < P → 0 ≤ st (31 + p) ∧ st (31 + p) ≤ 7)
theorem WK.v3 {st : Nat → Int32} {V P : Nat} (h : WK st V P) : V ≤ 3 := h.1
theorem WK.p5 {st : Nat → Int32} {V P : Nat} (h : WK st V P) : P ≤ 5 := h.2.1
theorem WK.bk {st : Nat → Int32} {V P : Nat} (h : WK st V P) : 1 ≤ st 0 ∧ st 0 ≤ 9 := h.2.2.1
theorem WK.dn {st : Nat → Int32} {V P : Nat} (h : WK st V P) : ∀ p, p < P → st (41 + p) = if st (26 + p) ≤ st (36 + p) then 1 else 0 := h.2.2.2.1
theorem WK.hn {st : Nat → Int32} {V P : Nat} (h : WK st V P) : ∀ p, p < P → st (26 + p) ≤ st (36 + p) → st (46 + p) = -1000000 := h.2.2.2.2.1
theorem WK.hd {st : Nat → Int32} {V P : Nat} (h : WK st V P) : ∀ p, p < P → st (46 + p) = -1000000 ∨ (0 ≤ st (46 + p) ∧ st (46 + p) < 7) := h.2.2.2.2.2.1
theorem WK.tk {st : Nat → Int32} {V P : Nat} (h : WK st V P) : ∀ p, p < P → 0 ≤ st (36 + p) ∧ st (36 + p) ≤ 20 := h.2.2.2.2.2.2.1
theorem WK.nd {st : Nat → Int32} {V P : Nat} (h : WK st V P) : ∀ p, p < P → 1 ≤ st (26 + p) ∧ st (26 + p) ≤ 20 := h.2.2.2.2.2.2.2.1
theorem WK.kd {st : Nat → Int32} {V P : Nat} (h : WK st V P) : ∀ p, p < P → 1 ≤ st (16 + p) ∧ st (16 + p) ≤ 5 := h.2.2.2.2.2.2.2.2.1
theorem WK.md {st : Nat → Int32} {V P : Nat} (h : WK st V P) : ∀ p, p < P → 0 ≤ st (21 + p) ∧ st (21 + p) ≤ 127 := h.2.2.2.2.2.2.2.2.2.1
theorem WK.hr {st : Nat → Int32} {V P : Nat} (h : WK st V P) : ∀ p, p < P → 0 ≤ st (31 + p) ∧ st (31 + p) ≤ 7 := h.2.2.2.2.2.2.2.2.2.2
theorem WK.d01 {st : Nat → Int32} {V P : Nat} (h : WK st V P) : d01 st P := fun p hp => by
  rw [h.dn p hp]
  split
  · exact Or.inr rfl
  · exact Or.inl rfl
theorem shl0 : ∀ k, k < 5 → (0 : Int32) <<< (nI k &&& 31) = 0 := fun k h => co_dec (P := fun k => (0 : Int32) <<< (nI k &&& 31) = 0) (by decide +kernel) h
theorem isK.far {a b : Nat} (h : isK a) (h2 : isK b) (n : a ≠ b) : a + 10 < b ∨ b + 10 < a := by
  rcases h with rfl | rfl | rfl | rfl <;> rcases h2 with rfl | rfl | rfl | rfl <;> omega
set_option maxHeartbeats 2000000 in
set_option maxRecDepth 20000 in
theorem s_Ccan (kc : Nat) (hk : isK kc) (m : jM) (st : Nat → Int32) (V P : Nat) (hV : V ≤ 3) (hR : RK m kc st V P) (s : Nat) (hs : s < V) (x : Int32) : iX mX0_can [.ref kc, .int (nI s), .int x] m (fun v m1 => m = m1 ∧ isB v (canB st s x = true)) := by
  refine jX_of (L := [some (.ref kc), some (.int (nI s)), some (.int x)]) 0 rfl rfl (by decide +kernel) rfl ?_
  refine e_iload_n dX0_can_0 rfl ?_
  refine e_bipush (v := 7) dX0_can_1 rfl ?_
  refine e_icmp_eq 41 dX0_can_3 (by decide) (fun c3 => ?_) (fun c3 => ?_)
  · refine e_iconst (v := 1) dX0_can_41 rfl ?_
    refine e_goto 46 dX0_can_42 (by decide) ?_
    exact e_zret dX0_can_46 rfl (by decide) (⟨rfl, isB.iff (P := canP st s x) (by unfold canP; first | exact isB.t (Or.inl c3) | exact isB.t (Or.inr ⟨⟨Int32.not_lt.mp c13, Int32.not_lt.mp c23⟩, Int32.not_le.mp c38⟩) | exact isB.f (fun z => z.elim c3 (fun z => by simp_all [j_ltn, -Int32.not_le, -Int32.not_lt])) | simp_all [j_ltn, -Int32.not_le, -Int32.not_lt]) canB_iff⟩)
  · refine e_iload_n dX0_can_6 rfl ?_
    refine e_aload_n dX0_can_7 rfl ?_
    refine e_getR (o := 1) (b := kc + 1) dX0_can_8 lkX0_22 (isK.l0 hk) rfl (by decide) rfl ?_
    refine e_iload_n dX0_can_11 rfl ?_
    refine e_iald dX0_can_12 (isK.l1 hk) s rfl (by omega) (by decide) ?_
    rw [show m (kc + 1) s = st (4 + s) from hR.lo s hs]
    refine e_icmp_lt 45 dX0_can_13 (by decide) (fun c13 => ?_) (fun c13 => ?_)
    · refine e_iconst (v := 0) dX0_can_45 rfl ?_
      exact e_zret dX0_can_46 rfl (by decide) (⟨rfl, isB.iff (P := canP st s x) (by unfold canP; first | exact isB.t (Or.inl c3) | exact isB.t (Or.inr ⟨⟨Int32.not_lt.mp c13, Int32.not_lt.mp c23⟩, Int32.not_le.mp c38⟩) | exact isB.f (fun z => z.elim c3 (fun z => by simp_all [j_ltn, -Int32.not_le, -Int32.not_lt])) | simp_all [j_ltn, -Int32.not_le, -Int32.not_lt]) canB_iff⟩)
    · refine e_iload_n dX0_can_16 rfl ?_
      refine e_aload_n dX0_can_17 rfl ?_
      refine e_getR (o := 2) (b := kc + 2) dX0_can_18 lkX0_26 (isK.l0 hk) rfl (by decide) rfl ?_
      refine e_iload_n dX0_can_21 rfl ?_
      refine e_iald dX0_can_22 (isK.l2 hk) s rfl (by omega) (by decide) ?_
      rw [show m (kc + 2) s = st (7 + s) from hR.hi s hs]
      refine e_icmp_gt 45 dX0_can_23 (by decide) (fun c23 => ?_) (fun c23 => ?_)
      · refine e_iconst (v := 0) dX0_can_45 rfl ?_
        exact e_zret dX0_can_46 rfl (by decide) (⟨rfl, isB.iff (P := canP st s x) (by unfold canP; first | exact isB.t (Or.inl c3) | exact isB.t (Or.inr ⟨⟨Int32.not_lt.mp c13, Int32.not_lt.mp c23⟩, Int32.not_le.mp c38⟩) | exact isB.f (fun z => z.elim c3 (fun z => by simp_all [j_ltn, -Int32.not_le, -Int32.not_lt])) | simp_all [j_ltn, -Int32.not_le, -Int32.not_lt]) canB_iff⟩)
      · refine e_aload_n dX0_can_26 rfl ?_
        refine e_getR (o := 7) (b := kc + 7) dX0_can_27 lkX0_47 (isK.l0 hk) rfl (by decide) rfl ?_
        refine e_iload_n dX0_can_30 rfl ?_
        refine e_iald dX0_can_31 (isK.l7 hk) s rfl (by omega) (by decide) ?_
        rw [show m (kc + 7) s = st (13 + s) from hR.sg s hs]
        refine e_aload_n dX0_can_32 rfl ?_
        refine e_getR (o := 3) (b := kc + 3) dX0_can_33 lkX0_29 (isK.l0 hk) rfl (by decide) rfl ?_
        refine e_iload_n dX0_can_36 rfl ?_
        refine e_iald dX0_can_37 (isK.l3 hk) s rfl (by omega) (by decide) ?_
        rw [show m (kc + 3) s = st (10 + s) from hR.bt s hs]
        refine e_icmp_ge 45 dX0_can_38 (by decide) (fun c38 => ?_) (fun c38 => ?_)
        · refine e_iconst (v := 0) dX0_can_45 rfl ?_
          exact e_zret dX0_can_46 rfl (by decide) (⟨rfl, isB.iff (P := canP st s x) (by unfold canP; first | exact isB.t (Or.inl c3) | exact isB.t (Or.inr ⟨⟨Int32.not_lt.mp c13, Int32.not_lt.mp c23⟩, Int32.not_le.mp c38⟩) | exact isB.f (fun z => z.elim c3 (fun z => by simp_all [j_ltn, -Int32.not_le, -Int32.not_lt])) | simp_all [j_ltn, -Int32.not_le, -Int32.not_lt]) canB_iff⟩)
        · refine e_iconst (v := 1) dX0_can_41 rfl ?_
          refine e_goto 46 dX0_can_42 (by decide) ?_
          exact e_zret dX0_can_46 rfl (by decide) (⟨rfl, isB.iff (P := canP st s x) (by unfold canP; first | exact isB.t (Or.inl c3) | exact isB.t (Or.inr ⟨⟨Int32.not_lt.mp c13, Int32.not_lt.mp c23⟩, Int32.not_le.mp c38⟩) | exact isB.f (fun z => z.elim c3 (fun z => by simp_all [j_ltn, -Int32.not_le, -Int32.not_lt])) | simp_all [j_ltn, -Int32.not_le, -Int32.not_lt]) canB_iff⟩)

set_option maxHeartbeats 2000000 in
set_option maxRecDepth 20000 in
theorem s_Cset (kc : Nat) (hk : isK kc) (m : jM) (st : Nat → Int32) (V P : Nat) (hP : P ≤ 5) (hR : RK m kc st V P) (p : Nat) (hp : p < P) : iX mX0_isSet [.ref kc, .int (nI p)] m (fun v m1 => m = m1 ∧ isB v (st (26 + p) ≤ st (36 + p))) := by
  refine jX_of (L := [some (.ref kc), some (.int (nI p))]) 0 rfl rfl (by decide +kernel) rfl ?_
  refine e_aload_n dX0_isSet_0 rfl ?_
  refine e_getR (o := 9) (b := kc + 9) dX0_isSet_1 lkX0_53 (isK.l0 hk) rfl (by decide) rfl ?_
  refine e_iload_n dX0_isSet_4 rfl ?_
  refine e_iald dX0_isSet_5 (isK.l9 hk) p rfl (by omega) (by decide) ?_
  rw [show m (kc + 9) p = st (36 + p) from hR.tk p hp]
  refine e_aload_n dX0_isSet_6 rfl ?_
  refine e_getR (o := 6) (b := kc + 6) dX0_isSet_7 lkX0_41 (isK.l0 hk) rfl (by decide) rfl ?_
  refine e_iload_n dX0_isSet_10 rfl ?_
  refine e_iald dX0_isSet_11 (isK.l6 hk) p rfl (by omega) (by decide) ?_
  rw [show m (kc + 6) p = st (26 + p) from hR.nd p hp]
  refine e_icmp_lt 19 dX0_isSet_12 (by decide) (fun c12 => ?_) (fun c12 => ?_)
  · refine e_iconst (v := 0) dX0_isSet_19 rfl ?_
    exact e_zret dX0_isSet_20 rfl (by decide) (⟨rfl, by first | exact isB.t (Int32.not_lt.mp c12) | exact isB.f (Int32.not_le.mpr c12)⟩)
  · refine e_iconst (v := 1) dX0_isSet_15 rfl ?_
    refine e_goto 20 dX0_isSet_16 (by decide) ?_
    exact e_zret dX0_isSet_20 rfl (by decide) (⟨rfl, by first | exact isB.t (Int32.not_lt.mp c12) | exact isB.f (Int32.not_le.mpr c12)⟩)

set_option maxHeartbeats 2000000 in
set_option maxRecDepth 20000 in
theorem s_CsetPans (kc : Nat) (hk : isK kc) (m : jM) (st : Nat → Int32) (V P : Nat) (hW : WK st V P) (hR : RK m kc st V P) : iX mX0_setPans [.ref kc] m (fun v m1 => m = m1 ∧ v = setB st P) := by
  have hP := hW.p5
  refine jX_of (L := [some (.ref kc), none, none]) 2 rfl rfl (by decide +kernel) rfl ?_
  refine e_iconst (v := 0) dX0_setPans_0 rfl ?_
  refine e_istore_n (L' := [some (.ref kc), some (.int 0), none]) dX0_setPans_1 (Nat.le_of_ble_eq_true rfl) (Nat.le_of_ble_eq_true rfl) (jnl_at (i := 0) rfl) rfl ?_
  refine e_iconst (v := 0) dX0_setPans_2 rfl ?_
  refine e_istore_n (L' := [some (.ref kc), some (.int 0), some (.int 0)]) dX0_setPans_3 (Nat.le_of_ble_eq_true rfl) (Nat.le_of_ble_eq_true rfl) (jnl_at (i := 1) rfl) rfl ?_
  refine e_loop 4 P (fun k => [some (.ref kc), some (.int (setB st k)), some (.int (nI k))]) (fun k => m) 0 (Nat.zero_le _) rfl (rfl) ?_ ?_
  · show jE _ _ 4 [some (.ref kc), some (.int (setB st P)), some (.int (nI P))] [] m
    refine e_iload_n dX0_setPans_4 rfl ?_
    refine e_aload_n dX0_setPans_5 rfl ?_
    refine e_getI dX0_setPans_6 lkX0_32 (isK.l0 hk) rfl ?_
    rw [show m kc 6 = nI P from hR.ps]
    refine e_icmp_ge 36 dX0_setPans_9 (by decide) (fun c9 => ?_) (fun h => absurd (j_done rfl rfl) h)
    refine e_iload_n dX0_setPans_36 rfl ?_
    exact e_iret dX0_setPans_37 rfl (⟨rfl, rfl⟩)
  · intro k hk_ ih
    show jE _ _ 4 [some (.ref kc), some (.int (setB st k)), some (.int (nI k))] [] m
    refine e_iload_n dX0_setPans_4 rfl ?_
    refine e_aload_n dX0_setPans_5 rfl ?_
    refine e_getI dX0_setPans_6 lkX0_32 (isK.l0 hk) rfl ?_
    rw [show m kc 6 = nI P from hR.ps]
    refine e_icmp_ge 36 dX0_setPans_9 (by decide) (fun h => absurd h (j_more (N := P) rfl rfl (by omega) (by omega))) (fun c9 => ?_)
    refine e_iload_n dX0_setPans_12 rfl ?_
    refine e_aload_n dX0_setPans_13 rfl ?_
    refine e_iload_n dX0_setPans_14 rfl ?_
    have hkP : k < P := hk_
    refine e_callVi (n := 1) mX0_isSet [.int (nI k)] dX0_setPans_15 ckX0_72 rfl (by decide +kernel) rfl (isK.l0 hk) rfl rfl (Nat.le_of_ble_eq_true rfl) ⟨Nat.zero_le _, Nat.zero_le _⟩ (s_Cset kc hk m st V P hP hR k hkP) (fun v15 m1 hm1 => ?_)
    rcases hm1 with ⟨rfl, ⟨rfl, q⟩ | ⟨rfl, q⟩⟩
    · refine e_if_eq 27 dX0_setPans_18 (by decide) (fun h => absurd h (by decide)) (fun c18 => ?_)
      refine e_iconst (v := 1) dX0_setPans_21 rfl ?_
      refine e_iload_n dX0_setPans_22 rfl ?_
      refine e_ishl dX0_setPans_23 ?_
      refine e_goto 28 dX0_setPans_24 (by decide) ?_
      refine e_ior dX0_setPans_28 ?_
      refine e_istore_n (L' := [some (.ref kc), some (.int ((setB st k) ||| (1 <<< ((nI k) &&& 31)))), some (.int (nI k))]) dX0_setPans_29 (Nat.le_of_ble_eq_true rfl) (Nat.le_of_ble_eq_true rfl) (jnl_at (i := 0) rfl) rfl ?_
      refine e_iinc (v := nI (k + 1)) (L' := [some (.ref kc), some (.int ((setB st k) ||| (1 <<< ((nI k) &&& 31)))), some (.int (nI (k + 1)))]) dX0_setPans_30 rfl (j_inc rfl) (by decide) (jnl_at (i := 1) rfl) rfl ?_
      refine e_goto 4 dX0_setPans_33 (by decide) ?_
      have e : (setB st k) ||| (1 <<< ((nI k) &&& 31)) = setB st (k + 1) := by
        rw [show setB st (k + 1) = setB st k ||| (st (41 + k) <<< (nI k &&& 31)) from rfl, hW.dn k hkP]
        first | (rw [if_pos q]) | (rw [if_neg q, shl0 k (by omega)])
      rw [e]
      exact ih
    · refine e_if_eq 27 dX0_setPans_18 (by decide) (fun c18 => ?_) (fun h => absurd h (by decide))
      refine e_iconst (v := 0) dX0_setPans_27 rfl ?_
      refine e_ior dX0_setPans_28 ?_
      refine e_istore_n (L' := [some (.ref kc), some (.int ((setB st k) ||| 0)), some (.int (nI k))]) dX0_setPans_29 (Nat.le_of_ble_eq_true rfl) (Nat.le_of_ble_eq_true rfl) (jnl_at (i := 0) rfl) rfl ?_
      refine e_iinc (v := nI (k + 1)) (L' := [some (.ref kc), some (.int ((setB st k) ||| 0)), some (.int (nI (k + 1)))]) dX0_setPans_30 rfl (j_inc rfl) (by decide) (jnl_at (i := 1) rfl) rfl ?_
      refine e_goto 4 dX0_setPans_33 (by decide) ?_
      have e : (setB st k) ||| 0 = setB st (k + 1) := by
        rw [show setB st (k + 1) = setB st k ||| (st (41 + k) <<< (nI k &&& 31)) from rfl, hW.dn k hkP]
        first | (rw [if_pos q]) | (rw [if_neg q, shl0 k (by omega)])
      rw [e]
      exact ih
