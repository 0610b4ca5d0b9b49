/-! ===== the class's rows and its asks ===== -/
theorem byte_bv (x : BitVec 32) : (x.signExtend 8).signExtend 32 = (x <<< 24).sshiftRight 24 := by
  apply BitVec.eq_of_getLsbD_eq
  intro i hi
  rw [BitVec.getLsbD_signExtend, BitVec.getLsbD_sshiftRight]
  by_cases h : i < 8
  · have h1 : ¬ 32 ≤ i := by omega
    have h2 : 24 + i < 32 := by omega
    have h3 : ¬ 24 + i < 24 := by omega
    have h4 : 24 + i - 24 = i := by omega
    have h5 : i < 32 := hi
    simp [BitVec.getLsbD_signExtend, BitVec.getElem_signExtend, BitVec.getLsbD_shiftLeft, h, h1, h2, h3, h4, h5]
  · have h1 : ¬ 32 ≤ i := by omega
    have h2 : ¬ 24 + i < 32 := by omega
    have h5 : i < 32 := hi
    simp [BitVec.getLsbD_signExtend, BitVec.getElem_signExtend, BitVec.getLsbD_shiftLeft, BitVec.msb_eq_getLsbD_last, h, h1, h2, h5]
theorem short_bv (x : BitVec 32) : (x.signExtend 16).signExtend 32 = (x <<< 16).sshiftRight 16 := by
  apply BitVec.eq_of_getLsbD_eq
  intro i hi
  rw [BitVec.getLsbD_signExtend, BitVec.getLsbD_sshiftRight]
  by_cases h : i < 16
  · have h1 : ¬ 32 ≤ i := by omega
    have h2 : 16 + i < 32 := by omega
    have h3 : ¬ 16 + i < 16 := by omega
    have h4 : 16 + i - 16 = i := by omega
    have h5 : i < 32 := hi
    simp [BitVec.getLsbD_signExtend, BitVec.getElem_signExtend, BitVec.getLsbD_shiftLeft, h, h1, h2, h3, h4, h5]
  · have h1 : ¬ 32 ≤ i := by omega
    have h2 : ¬ 16 + i < 32 := by omega
    have h5 : i < 32 := hi
    simp [BitVec.getLsbD_signExtend, BitVec.getElem_signExtend, BitVec.getLsbD_shiftLeft, BitVec.msb_eq_getLsbD_last, h, h1, h2, h5]
theorem byte_ok (v : Int32) : v.toInt8.toInt32 = (v <<< ((24 : Int32) &&& 31)) >>> ((24 : Int32) &&& 31) := by
  apply Int32.toBitVec_inj.mp
  rw [show (24 : Int32) &&& 31 = 24 from by decide, Int32.toBitVec_shiftRight, Int32.toBitVec_shiftLeft]
  exact byte_bv v.toBitVec
theorem short_ok (v : Int32) : v.toInt16.toInt32 = (v <<< ((16 : Int32) &&& 31)) >>> ((16 : Int32) &&& 31) := by
  apply Int32.toBitVec_inj.mp
  rw [show (16 : Int32) &&& 31 = 16 from by decide, Int32.toBitVec_shiftRight, Int32.toBitVec_shiftLeft]
  exact short_bv v.toBitVec
/-- the row r of the class stands as the reference's -/
def RW (m : jM) (r : Nat) : Prop := (m (2 + 2 * r) 0 = 0 ∧ m 100 r = -1) ∨ (m (2 + 2 * r) 0 = 1 ∧ ∃ k : Nat, k ≤ 40 ∧ m (2 + 2 * r) 2 = nI k ∧ m 100 r = nI k ∧ m (2 + 2 * r) 1 = m 99 r ∧ ∀ j, j < 40 → m (2 + 2 * r + 1) j = m 101 (40 * r + j))
theorem RW.sz {m : jM} {r : Nat} (h : RW m r) : szOK m r := by
  rcases h with ⟨-, h⟩ | ⟨-, k, hk, -, h, -⟩
  · exact Or.inl h
  · exact Or.inr ⟨k, hk, h⟩
theorem goodB_t {items : Nat → Int32} {o : Nat} : ∀ n, goodB items o n = true → ∀ j, j < n → 0 ≤ items (o + j) ∧ items (o + j) < nI 8
  | 0, _, j, hj => by omega
  | n + 1, h, j, hj => by
    have h' : (goodB items o n && decide (0 ≤ items (o + n) ∧ items (o + n) < nI 8)) = true := h
    rw [Bool.and_eq_true] at h'
    by_cases e : j = n
    · rw [e]; exact of_decide_eq_true h'.2
    · exact goodB_t n h'.1 j (by omega)
theorem goodB_s {items : Nat → Int32} {o n : Nat} (h : goodB items o n = true) (h2 : 0 ≤ items (o + n) ∧ items (o + n) < nI 8) : goodB items o (n + 1) = true := by
  show (_ && _) = true
  rw [h, decide_eq_true h2]
  rfl
theorem goodB_f {items : Nat → Int32} {o j : Nat} (h : ¬ (0 ≤ items (o + j) ∧ items (o + j) < nI 8)) : ∀ n, j < n → ¬ goodB items o n = true := fun n hj q => h (goodB_t n q j hj)
theorem goodB_ok {items : Nat → Int32} {o n : Nat} (h : goodB items o n = true) : ∀ j, j < n → ∃ a, a < 8 ∧ items (o + j) = nI a := fun j hj => by
  have := goodB_t n h j hj
  exact j_small (Int32.not_lt.mpr this.1) (by decide) this.2
theorem sub_toInt {n : Int32} {k : Nat} (hk : k ≤ 40) (hn : 0 ≤ n) : (nI k - n).toInt = (k : Int) - n.toInt := by
  rw [Int32.toInt_sub, nI_toInt (by omega)]
  have h1 := Int32.toInt_lt n
  have h2 : 0 ≤ n.toInt := by
    have := Int32.le_iff_toInt_le.mp hn
    rwa [show (0 : Int32).toInt = 0 from rfl] at this
  rw [Int.bmod_eq_of_le (by omega) (by omega)]
theorem reach_iff {i n : Int32} {k : Nat} (hk : k ≤ 40) : (0 ≤ i ∧ 0 ≤ n ∧ i ≤ nI k - n) ↔ reachP k i n := by
  unfold reachP
  by_cases hn : 0 ≤ n
  · rw [Int32.le_iff_toInt_le (x := i), sub_toInt hk hn]
    constructor
    · rintro ⟨a, b, c⟩; exact ⟨b, a, by omega⟩
    · rintro ⟨a, b, c⟩; exact ⟨b, a, by omega⟩
  · exact ⟨fun z => absurd z.2.1 hn, fun z => absurd z.1 hn⟩
/-- the nearest kinds, up to the asked one -/
def nrN (a : Nat) : Nat := if a = 2 then 1 else if a = 3 then 1 else if a = 5 then 4 else 0
theorem near_ok : ∀ a, a < 6 → jnear a = nI (nrN a) := fun a h => co_dec (P := fun a => jnear a = nI (nrN a)) (by decide +kernel) h
theorem nrN_lt : ∀ a, a < 6 → nrN a < 6 := fun a h => co_dec (P := fun a => nrN a < 6) (by decide +kernel) h
def isoF (q : Nat) : Nat → Nat → Bool
  | 0, a => decide (a = q)
  | f + 1, a => if a = 0 ∨ a = q then decide (a = q) else isoF q f (nrN a)
theorem iso_ok : ∀ k, k < 6 → ∀ q, q < 6 → 1 ≤ k → (isoF q 6 k = true ↔ kindP (nI k) (nI q)) := by
  intro k hk q hq h1
  have h : (List.range 6).all (fun k => (List.range 6).all (fun q => decide (1 ≤ k → (isoF q 6 k = true ↔ (nI q = 0 ∨ nI k = nI q ∨ (nI q = 1 ∧ nI k < 4) ∨ (nI q = 4 ∧ nI k = 5)))))) = true := by decide +kernel
  exact of_decide_eq_true (List.all_eq_true.mp (List.all_eq_true.mp h k (List.mem_range.mpr hk)) q (List.mem_range.mpr hq)) h1
theorem s_notN (m : jM) (x y : Int32) (n : Nat) (hy : y = nI n) : iX mX3_isNot [.int x, .int y] m (fun v m1 => m = m1 ∧ isB v (¬ inN x n)) := by
  have h := s_isNot m x y
  rw [hy] at h ⊢
  rw [inN_not]
  exact h
/-- a body's number is left in the class's trace -/
def begC (m : jM) (x : Int32) : jM := if m 0 15 < 16 then jst (jst m 97 (m 0 15).toNatClampNeg x) 0 15 (m 0 15 + 1) else m
def bgC (m : jM) (l : List Int32) : jM := l.foldl begC m
def trC (m : jM) : Prop := ∃ k : Nat, k ≤ 16 ∧ m 0 15 = nI k
theorem begC_o {m : jM} {x : Int32} {c : Nat} (h : c ≠ 0) (h2 : c ≠ 97) : begC m x c = m c := by
  unfold begC
  by_cases e : m 0 15 < 16
  · rw [if_pos e, jst_n _ _ _ h, jst_n _ _ _ h2]
  · rw [if_neg e]
theorem trC_b {m : jM} (x : Int32) (h : trC m) : trC (begC m x) := by
  obtain ⟨k, hk, e⟩ := h
  unfold begC
  by_cases c : m 0 15 < 16
  · rw [if_pos c]
    refine ⟨k + 1, ?_, ?_⟩
    · rw [e] at c
      have := (j_lt (a := k) (b := 16) (by omega) (by decide)).mp c
      omega
    · rw [jst_s, upd_s, e]
      exact nI_1 k
  · rw [if_neg c]
    exact ⟨k, hk, e⟩
set_option maxHeartbeats 2000000 in
set_option maxRecDepth 20000 in
theorem s_cut (m : jM) (r : Nat) (hr : r < 8) (v : Int32) : iX mX1_cut [.ref (2 + 2 * r), .int v] m (fun x m1 => x = laneF (m (2 + 2 * r) 1) v ∧ m = m1) := by
  refine jX_of (L := [some (.ref (2 + 2 * r)), some (.int v)]) 0 rfl rfl (by decide +kernel) rfl ?_
  refine e_aload_n dX1_cut_0 rfl ?_
  refine e_getI dX1_cut_1 lkX1_15 (isR_l r hr) rfl ?_
  refine e_if_ne 10 dX1_cut_4 (by decide) (fun c4 => ?_) (fun c4 => ?_)
  · refine e_aload_n dX1_cut_10 rfl ?_
    refine e_getI dX1_cut_11 lkX1_15 (isR_l r hr) rfl ?_
    refine e_iconst (v := 1) dX1_cut_14 rfl ?_
    refine e_icmp_ne 23 dX1_cut_15 (by decide) (fun c15 => ?_) (fun c15 => ?_)
    · refine e_iload_n dX1_cut_23 rfl ?_
      exact e_iret dX1_cut_24 rfl (⟨by unfold laneF; rw [if_neg c4]; first | (rw [if_neg c15]; done) | (rw [if_pos (by first | exact c15 | exact Classical.byContradiction c15)]; exact short_ok v), rfl⟩)
    · refine e_iload_n dX1_cut_18 rfl ?_
      refine e_i2s dX1_cut_19 ?_
      refine e_goto 24 dX1_cut_20 (by decide) ?_
      exact e_iret dX1_cut_24 rfl (⟨by unfold laneF; rw [if_neg c4]; first | (rw [if_neg c15]; done) | (rw [if_pos (by first | exact c15 | exact Classical.byContradiction c15)]; exact short_ok v), rfl⟩)
  · refine e_iload_n dX1_cut_7 rfl ?_
    refine e_i2b dX1_cut_8 ?_
    exact e_iret dX1_cut_9 rfl (⟨by unfold laneF; rw [if_pos (by first | exact c4 | exact Classical.byContradiction c4)]; exact byte_ok v, rfl⟩)

set_option maxHeartbeats 2000000 in
set_option maxRecDepth 20000 in
theorem s_rowBegin (m : jM) (r : Nat) (hr : r < 8) (l n : Int32) : vX mX1_begin [.ref (2 + 2 * r), .int l, .int n] m (fun m1 => jup (jst (jst (jst m (2 + 2 * r) 0 1) (2 + 2 * r) 1 l) (2 + 2 * r) 2 n) (2 + 2 * r + 1) (va_cpy (fun _ => 0) (m (2 + 2 * r + 1)) 0 0 40) = m1) := by
  refine jX_of (L := [some (.ref (2 + 2 * r)), some (.int l), some (.int n)]) 0 rfl rfl (by decide +kernel) rfl ?_
  refine e_aload_n dX1_begin_0 rfl ?_
  refine e_iconst (v := 1) dX1_begin_1 rfl ?_
  refine e_putI dX1_begin_2 lkX1_9 (isR_l r hr) rfl fwX1_0 (Or.inr ⟨rfl, by decide⟩) (fun ma hma => ?_)
  refine e_aload_n dX1_begin_5 rfl ?_
  refine e_iload_n dX1_begin_6 rfl ?_
  refine e_putI dX1_begin_7 lkX1_15 (isR_l r hr) rfl fwX1_1 (Or.inl rfl) (fun mb hmb => ?_)
  refine e_aload_n dX1_begin_10 rfl ?_
  refine e_iload_n dX1_begin_11 rfl ?_
  refine e_putI dX1_begin_12 lkX1_19 (isR_l r hr) rfl fwX1_2 (Or.inl rfl) (fun mc hmc => ?_)
  refine e_aload_n dX1_begin_15 rfl ?_
  refine e_getR (o := 1) (b := 2 + 2 * r + 1) dX1_begin_16 lkX1_22 (isR_l r hr) rfl (by decide) rfl ?_
  refine e_iconst (v := 0) dX1_begin_19 rfl ?_
  refine e_callSv (n := 2) mArr_fill [.ref (2 + 2 * r + 1), .int 0] dX1_begin_20 ckX1_26 rfl (by decide +kernel) rfl rfl (Nat.le_of_ble_eq_true rfl) ⟨Nat.zero_le _, Nat.zero_le _⟩ (s_fill40 mc (2 + 2 * r + 1) (isR_i r hr) 0) (fun mf hmf => ?_)
  exact e_vret dX1_begin_23 rfl (by rw [← hmf, hmc, hmb, hma]; simp only [jst_n _ _ _ (show 2 + 2 * r + 1 ≠ 2 + 2 * r by omega)])

set_option maxHeartbeats 2000000 in
set_option maxRecDepth 20000 in
theorem s_isOf (m : jM) (k q : Nat) (hk : k < 6) (hq : q < 6) (h1 : 1 ≤ k) : iX mX3_isOf [.int (nI k), .int (nI q)] m (fun v m1 => m = m1 ∧ isB v (kindP (nI k) (nI q))) := by
  refine jX_of (L := [some (.int (nI k)), some (.int (nI q)), none, none]) 2 rfl rfl (by decide +kernel) rfl ?_
  refine e_iload_n dX3_isOf_0 rfl ?_
  refine e_istore_n (L' := [some (.int (nI k)), some (.int (nI q)), some (.int (nI k)), none]) dX3_isOf_1 (Nat.le_of_ble_eq_true rfl) (Nat.le_of_ble_eq_true rfl) (jnl_at (i := 1) rfl) rfl ?_
  refine e_iconst (v := 0) dX3_isOf_2 rfl ?_
  refine e_istore_n (L' := [some (.int (nI k)), some (.int (nI q)), some (.int (nI k)), some (.int 0)]) dX3_isOf_3 (Nat.le_of_ble_eq_true rfl) (Nat.le_of_ble_eq_true rfl) (jnl_at (i := 2) rfl) rfl ?_
  refine e_loopS (σ := Nat) 4 6 (fun t a => [some (.int (nI k)), some (.int (nI q)), some (.int (nI a)), some (.int (nI t))]) (fun t a mm => a < 6 ∧ isoF q (6 - t) a = isoF q 6 k ∧ m = mm) 0 k (Nat.zero_le _) rfl (⟨hk, rfl, rfl⟩) ?_ ?_
  · intro a mm hI
    show jE _ _ 4 [some (.int (nI k)), some (.int (nI q)), some (.int (nI a)), some (.int (nI 6))] [] mm
    obtain ⟨ha, hf, rfl⟩ := hI
    refine e_iload_n dX3_isOf_4 rfl ?_
    refine e_near dX3_isOf_5 lkX3_293 ?_
    refine e_nlen dX3_isOf_8 ?_
    refine e_icmp_ge 41 dX3_isOf_9 (by decide) (fun c9 => ?_) (fun h => absurd (j_done rfl rfl) h)
    refine e_iload_n dX3_isOf_41 rfl ?_
    refine e_iload_n dX3_isOf_42 rfl ?_
    refine e_icmp_ne 50 dX3_isOf_43 (by decide) (fun c43 => ?_) (fun c43 => ?_)
    · refine e_iconst (v := 0) dX3_isOf_50 rfl ?_
      exact e_zret dX3_isOf_51 rfl (by decide) (⟨rfl, by
          have hz : decide (a = q) = isoF q 6 k := by
            rw [← hf]
            first
              | exact rfl
              | (rw [show 6 - t = (6 - (t + 1)) + 1 by omega]; exact (if_pos (by first | exact Or.inl a0 | exact Or.inr aq)).symm)
          refine isB.iff (P := isoF q 6 k = true) ?_ (iso_ok k (by omega) q hq h1)
          rw [← hz]
          first
            | exact isB.t (decide_eq_true ((j_eq (by omega) (by omega)).mp (by first | exact c43 | exact Classical.byContradiction c43)))
            | exact isB.f (fun w => c43 (by rw [of_decide_eq_true w]))⟩)
    · refine e_iconst (v := 1) dX3_isOf_46 rfl ?_
      refine e_goto 51 dX3_isOf_47 (by decide) ?_
      exact e_zret dX3_isOf_51 rfl (by decide) (⟨rfl, by
          have hz : decide (a = q) = isoF q 6 k := by
            rw [← hf]
            first
              | exact rfl
              | (rw [show 6 - t = (6 - (t + 1)) + 1 by omega]; exact (if_pos (by first | exact Or.inl a0 | exact Or.inr aq)).symm)
          refine isB.iff (P := isoF q 6 k = true) ?_ (iso_ok k (by omega) q hq h1)
          rw [← hz]
          first
            | exact isB.t (decide_eq_true ((j_eq (by omega) (by omega)).mp (by first | exact c43 | exact Classical.byContradiction c43)))
            | exact isB.f (fun w => c43 (by rw [of_decide_eq_true w]))⟩)
  · intro t hk_ a mm hI ih
    show jE _ _ 4 [some (.int (nI k)), some (.int (nI q)), some (.int (nI a)), some (.int (nI t))] [] mm
    obtain ⟨ha, hf, rfl⟩ := hI
    have ht := hk_
    refine e_iload_n dX3_isOf_4 rfl ?_
    refine e_near dX3_isOf_5 lkX3_293 ?_
    refine e_nlen dX3_isOf_8 ?_
    refine e_icmp_ge 41 dX3_isOf_9 (by decide) (fun h => absurd h (j_more (N := 6) rfl rfl (by omega) (by omega))) (fun c9 => ?_)
    refine e_iload_n dX3_isOf_12 rfl ?_
    refine e_if_le 41 dX3_isOf_13 (by decide) (fun c13 => ?_) (fun c13 => ?_)
    · have a0 : a = 0 := by have := (j_le (a := a) (b := 0) (by omega) (by decide)).mp c13; omega
      refine e_iload_n dX3_isOf_41 rfl ?_
      refine e_iload_n dX3_isOf_42 rfl ?_
      refine e_icmp_ne 50 dX3_isOf_43 (by decide) (fun c43 => ?_) (fun c43 => ?_)
      · refine e_iconst (v := 0) dX3_isOf_50 rfl ?_
        exact e_zret dX3_isOf_51 rfl (by decide) (⟨rfl, by
          have hz : decide (a = q) = isoF q 6 k := by
            rw [← hf]
            first
              | exact rfl
              | (rw [show 6 - t = (6 - (t + 1)) + 1 by omega]; exact (if_pos (by first | exact Or.inl a0 | exact Or.inr aq)).symm)
          refine isB.iff (P := isoF q 6 k = true) ?_ (iso_ok k (by omega) q hq h1)
          rw [← hz]
          first
            | exact isB.t (decide_eq_true ((j_eq (by omega) (by omega)).mp (by first | exact c43 | exact Classical.byContradiction c43)))
            | exact isB.f (fun w => c43 (by rw [of_decide_eq_true w]))⟩)
      · refine e_iconst (v := 1) dX3_isOf_46 rfl ?_
        refine e_goto 51 dX3_isOf_47 (by decide) ?_
        exact e_zret dX3_isOf_51 rfl (by decide) (⟨rfl, by
          have hz : decide (a = q) = isoF q 6 k := by
            rw [← hf]
            first
              | exact rfl
              | (rw [show 6 - t = (6 - (t + 1)) + 1 by omega]; exact (if_pos (by first | exact Or.inl a0 | exact Or.inr aq)).symm)
          refine isB.iff (P := isoF q 6 k = true) ?_ (iso_ok k (by omega) q hq h1)
          rw [← hz]
          first
            | exact isB.t (decide_eq_true ((j_eq (by omega) (by omega)).mp (by first | exact c43 | exact Classical.byContradiction c43)))
            | exact isB.f (fun w => c43 (by rw [of_decide_eq_true w]))⟩)
    · have a0 : ¬ a = 0 := fun z => c13 (by rw [z]; exact Int32.le_refl _)
      refine e_iload_n dX3_isOf_16 rfl ?_
      refine e_near dX3_isOf_17 lkX3_293 ?_
      refine e_nlen dX3_isOf_20 ?_
      refine e_icmp_ge 41 dX3_isOf_21 (by decide) (fun h => absurd h (j_more (N := 6) rfl rfl (by omega) (by omega))) (fun c21 => ?_)
      refine e_iload_n dX3_isOf_24 rfl ?_
      refine e_iload_n dX3_isOf_25 rfl ?_
      refine e_icmp_eq 41 dX3_isOf_26 (by decide) (fun c26 => ?_) (fun c26 => ?_)
      · have aq : a = q := (j_eq (by omega) (by omega)).mp c26
        refine e_iload_n dX3_isOf_41 rfl ?_
        refine e_iload_n dX3_isOf_42 rfl ?_
        refine e_icmp_ne 50 dX3_isOf_43 (by decide) (fun c43 => ?_) (fun c43 => ?_)
        · refine e_iconst (v := 0) dX3_isOf_50 rfl ?_
          exact e_zret dX3_isOf_51 rfl (by decide) (⟨rfl, by
          have hz : decide (a = q) = isoF q 6 k := by
            rw [← hf]
            first
              | exact rfl
              | (rw [show 6 - t = (6 - (t + 1)) + 1 by omega]; exact (if_pos (by first | exact Or.inl a0 | exact Or.inr aq)).symm)
          refine isB.iff (P := isoF q 6 k = true) ?_ (iso_ok k (by omega) q hq h1)
          rw [← hz]
          first
            | exact isB.t (decide_eq_true ((j_eq (by omega) (by omega)).mp (by first | exact c43 | exact Classical.byContradiction c43)))
            | exact isB.f (fun w => c43 (by rw [of_decide_eq_true w]))⟩)
        · refine e_iconst (v := 1) dX3_isOf_46 rfl ?_
          refine e_goto 51 dX3_isOf_47 (by decide) ?_
          exact e_zret dX3_isOf_51 rfl (by decide) (⟨rfl, by
          have hz : decide (a = q) = isoF q 6 k := by
            rw [← hf]
            first
              | exact rfl
              | (rw [show 6 - t = (6 - (t + 1)) + 1 by omega]; exact (if_pos (by first | exact Or.inl a0 | exact Or.inr aq)).symm)
          refine isB.iff (P := isoF q 6 k = true) ?_ (iso_ok k (by omega) q hq h1)
          rw [← hz]
          first
            | exact isB.t (decide_eq_true ((j_eq (by omega) (by omega)).mp (by first | exact c43 | exact Classical.byContradiction c43)))
            | exact isB.f (fun w => c43 (by rw [of_decide_eq_true w]))⟩)
      · have aq : ¬ a = q := fun z => c26 (by rw [z])
        refine e_near dX3_isOf_29 lkX3_293 ?_
        refine e_iload_n dX3_isOf_32 rfl ?_
        refine e_nld dX3_isOf_33 a rfl (by omega) ?_
        refine e_istore_n (L' := [some (.int (nI k)), some (.int (nI q)), some (.int (jnear a)), some (.int (nI t))]) dX3_isOf_34 (Nat.le_of_ble_eq_true rfl) (Nat.le_of_ble_eq_true rfl) (jnl_at (i := 1) rfl) rfl ?_
        refine e_iinc (v := nI (t + 1)) (L' := [some (.int (nI k)), some (.int (nI q)), some (.int (jnear a)), some (.int (nI (t + 1)))]) dX3_isOf_35 rfl (j_inc rfl) (by decide) (jnl_at (i := 2) rfl) rfl ?_
        refine e_goto 4 dX3_isOf_38 (by decide) ?_
        rw [near_ok a ha]
        refine ih (nrN a) m ⟨nrN_lt a ha, ?_, rfl⟩
        rw [← hf, show 6 - t = (6 - (t + 1)) + 1 by omega]
        exact (if_neg (fun z => z.elim a0 aq)).symm

set_option maxHeartbeats 2000000 in
set_option maxRecDepth 20000 in
theorem s_leave (m : jM) (x : Int32) (ht : trC m) : vX mX3_leave [.ref 0, .int x] m (fun m1 => begC m x = m1) := by
  obtain ⟨t, h16, e⟩ := ht
  refine jX_of (L := [some (.ref 0), some (.int x)]) 0 rfl rfl (by decide +kernel) rfl ?_
  refine e_aload_n dX3_leave_0 rfl ?_
  refine e_getI dX3_leave_1 lkX3_70 rfl rfl ?_
  rw [show m 0 15 = nI t from e]
  refine e_bipush (v := 16) dX3_leave_4 rfl ?_
  refine e_icmp_ge 29 dX3_leave_6 (by decide) (fun c6 => ?_) (fun c6 => ?_)
  · have q : ¬ nI t < 16 := Int32.not_lt.mpr c6
    exact e_vret dX3_leave_29 rfl (by unfold begC; rw [e, if_neg q])
  · have q : nI t < 16 := Int32.not_le.mp c6
    have q2 : t < 16 := (j_lt (a := t) (b := 16) (by omega) (by decide)).mp q
    refine e_aload_n dX3_leave_9 rfl ?_
    refine e_getR (o := 97) (b := 97) dX3_leave_10 lkX3_67 rfl rfl (by decide) rfl ?_
    refine e_aload_n dX3_leave_13 rfl ?_
    refine e_getI dX3_leave_14 lkX3_70 rfl rfl ?_
    rw [show m 0 15 = nI t from e]
    refine e_iload_n dX3_leave_17 rfl ?_
    refine e_iast dX3_leave_18 rfl t rfl (by omega) (by decide) (fun ma hma => ?_)
    refine e_aload_n dX3_leave_19 rfl ?_
    refine e_dup dX3_leave_20 rfl ?_
    refine e_getI dX3_leave_21 lkX3_70 rfl rfl ?_
    rw [show ma 0 15 = nI t from by rw [hma, jup_n _ _ (by decide)]; exact e]
    refine e_iconst (v := 1) dX3_leave_24 rfl ?_
    refine e_iadd dX3_leave_25 ?_
    rw [show (nI t) + 1 = nI (t + 1) from nI_1 t]
    refine e_putI dX3_leave_26 lkX3_70 rfl rfl fwX3_15 (Or.inl rfl) (fun mb hmb => ?_)
    exact e_vret dX3_leave_29 rfl (by unfold begC; rw [e, if_pos q, nI_clamp (by omega), nI_1, hmb, hma])

set_option maxHeartbeats 2000000 in
set_option maxRecDepth 20000 in
theorem s_ClentSize (m : jM) (p : Nat) (hp : p < 5) (ht : trC m) : iX mX3_lentSize [.ref 0, .int (nI p)] m (fun v m1 => v = m 26 p ∧ begC m 10 = m1) := by
  refine jX_of (L := [some (.ref 0), some (.int (nI p))]) 0 rfl rfl (by decide +kernel) rfl ?_
  refine e_aload_n dX3_lentSize_0 rfl ?_
  refine e_bipush (v := 10) dX3_lentSize_1 rfl ?_
  refine e_callVv (n := 1) mX3_leave [.int 10] dX3_lentSize_3 ckX3_296 rfl (by decide +kernel) rfl rfl rfl rfl (Nat.le_of_ble_eq_true rfl) ⟨Nat.zero_le _, Nat.zero_le _⟩ (s_leave m 10 ht) (fun m1 hm1 => ?_)
  obtain rfl := hm1
  refine e_aload_n dX3_lentSize_6 rfl ?_
  refine e_getR (o := 20) (b := 20) dX3_lentSize_7 lkX3_25 rfl rfl (by decide) rfl ?_
  refine e_getR (o := 6) (b := 26) dX3_lentSize_10 lkX3_173 rfl rfl (by decide) rfl ?_
  refine e_iload_n dX3_lentSize_13 rfl ?_
  refine e_iald dX3_lentSize_14 rfl p rfl (by omega) (by decide) ?_
  rw [show (begC m 10) 26 p = m 26 p from by simp only [begC_o (show (24 : Nat) ≠ 0 by decide) (show (24 : Nat) ≠ 97 by decide), begC_o (show (26 : Nat) ≠ 0 by decide) (show (26 : Nat) ≠ 97 by decide), begC_o (show (29 : Nat) ≠ 0 by decide) (show (29 : Nat) ≠ 97 by decide)]]
  exact e_iret dX3_lentSize_15 rfl (⟨rfl, rfl⟩)

set_option maxHeartbeats 2000000 in
set_option maxRecDepth 20000 in
theorem s_ClentMark (m : jM) (p : Nat) (hp : p < 5) (ht : trC m) : iX mX3_lentMark [.ref 0, .int (nI p)] m (fun v m1 => v = nI p ∧ begC m 20 = m1) := by
  refine jX_of (L := [some (.ref 0), some (.int (nI p))]) 0 rfl rfl (by decide +kernel) rfl ?_
  refine e_aload_n dX3_lentMark_0 rfl ?_
  refine e_bipush (v := 20) dX3_lentMark_1 rfl ?_
  refine e_callVv (n := 1) mX3_leave [.int 20] dX3_lentMark_3 ckX3_296 rfl (by decide +kernel) rfl rfl rfl rfl (Nat.le_of_ble_eq_true rfl) ⟨Nat.zero_le _, Nat.zero_le _⟩ (s_leave m 20 ht) (fun m1 hm1 => ?_)
  obtain rfl := hm1
  refine e_iload_n dX3_lentMark_6 rfl ?_
  exact e_iret dX3_lentMark_7 rfl (⟨rfl, rfl⟩)

set_option maxHeartbeats 2000000 in
set_option maxRecDepth 20000 in
theorem s_CplumMark (m : jM) (p : Nat) (hp : p < 5) (ht : trC m) : iX mX3_plumMark [.ref 0, .int (nI p)] m (fun v m1 => v = nI p + m 29 p ∧ bgC m [21, 20] = m1) := by
  refine jX_of (L := [some (.ref 0), some (.int (nI p))]) 0 rfl rfl (by decide +kernel) rfl ?_
  refine e_aload_n dX3_plumMark_0 rfl ?_
  refine e_bipush (v := 21) dX3_plumMark_1 rfl ?_
  refine e_callVv (n := 1) mX3_leave [.int 21] dX3_plumMark_3 ckX3_296 rfl (by decide +kernel) rfl rfl rfl rfl (Nat.le_of_ble_eq_true rfl) ⟨Nat.zero_le _, Nat.zero_le _⟩ (s_leave m 21 ht) (fun m1 hm1 => ?_)
  obtain rfl := hm1
  refine e_aload_n dX3_plumMark_6 rfl ?_
  refine e_iload_n dX3_plumMark_7 rfl ?_
  refine e_callVi (n := 1) mX3_lentMark [.int (nI p)] dX3_plumMark_8 ckX3_312 rfl (by decide +kernel) rfl rfl rfl rfl (Nat.le_of_ble_eq_true rfl) ⟨Nat.zero_le _, Nat.zero_le _⟩ (s_ClentMark (begC m 21) p hp (trC_b 21 ht)) (fun v8 m2 hm2 => ?_)
  obtain ⟨e1, rfl⟩ := hm2
  subst e1
  refine e_aload_n dX3_plumMark_11 rfl ?_
  refine e_getR (o := 20) (b := 20) dX3_plumMark_12 lkX3_25 rfl rfl (by decide) rfl ?_
  refine e_getR (o := 9) (b := 29) dX3_plumMark_15 lkX3_176 rfl rfl (by decide) rfl ?_
  refine e_iload_n dX3_plumMark_18 rfl ?_
  refine e_iald dX3_plumMark_19 rfl p rfl (by omega) (by decide) ?_
  rw [show (begC (begC m 21) 20) 29 p = m 29 p from by simp only [begC_o (show (24 : Nat) ≠ 0 by decide) (show (24 : Nat) ≠ 97 by decide), begC_o (show (26 : Nat) ≠ 0 by decide) (show (26 : Nat) ≠ 97 by decide), begC_o (show (29 : Nat) ≠ 0 by decide) (show (29 : Nat) ≠ 97 by decide)]]
  refine e_iadd dX3_plumMark_20 ?_
  exact e_iret dX3_plumMark_21 rfl (⟨rfl, rfl⟩)

set_option maxHeartbeats 2000000 in
set_option maxRecDepth 20000 in
theorem s_CmarrowSize (m : jM) (p : Nat) (hp : p < 5) (ht : trC m) : iX mX3_marrowSize [.ref 0, .int (nI p)] m (fun v m1 => v = m 26 p - 100 ∧ bgC m [13, 10] = m1) := by
  refine jX_of (L := [some (.ref 0), some (.int (nI p))]) 0 rfl rfl (by decide +kernel) rfl ?_
  refine e_aload_n dX3_marrowSize_0 rfl ?_
  refine e_bipush (v := 13) dX3_marrowSize_1 rfl ?_
  refine e_callVv (n := 1) mX3_leave [.int 13] dX3_marrowSize_3 ckX3_296 rfl (by decide +kernel) rfl rfl rfl rfl (Nat.le_of_ble_eq_true rfl) ⟨Nat.zero_le _, Nat.zero_le _⟩ (s_leave m 13 ht) (fun m1 hm1 => ?_)
  obtain rfl := hm1
  refine e_aload_n dX3_marrowSize_6 rfl ?_
  refine e_iload_n dX3_marrowSize_7 rfl ?_
  refine e_callVi (n := 1) mX3_lentSize [.int (nI p)] dX3_marrowSize_8 ckX3_303 rfl (by decide +kernel) rfl rfl rfl rfl (Nat.le_of_ble_eq_true rfl) ⟨Nat.zero_le _, Nat.zero_le _⟩ (s_ClentSize (begC m 13) p hp (trC_b 13 ht)) (fun v8 m2 hm2 => ?_)
  obtain ⟨e1, rfl⟩ := hm2
  simp only [begC_o (show (26 : Nat) ≠ 0 by decide) (show (26 : Nat) ≠ 97 by decide)] at e1
  subst e1
  refine e_bipush (v := 100) dX3_marrowSize_11 rfl ?_
  refine e_isub dX3_marrowSize_13 ?_
  exact e_iret dX3_marrowSize_14 rfl (⟨rfl, rfl⟩)

set_option maxHeartbeats 2000000 in
set_option maxRecDepth 20000 in
theorem s_CsizeOfMarrows (m : jM) (p : Nat) (hp : p < 5) (ht : trC m) : iX mX3_sizeOfMarrows [.ref 0, .int (nI p)] m (fun v m1 => v = sizMar (m 24 p) (m 26 p) ∧ bgC m (sizMarB (m 24 p)) = m1) := by
  refine jX_of (L := [some (.ref 0), some (.int (nI p))]) 0 rfl rfl (by decide +kernel) rfl ?_
  refine e_aload_n dX3_sizeOfMarrows_0 rfl ?_
  refine e_getR (o := 20) (b := 20) dX3_sizeOfMarrows_1 lkX3_25 rfl rfl (by decide) rfl ?_
  refine e_getR (o := 4) (b := 24) dX3_sizeOfMarrows_4 lkX3_236 rfl rfl (by decide) rfl ?_
  refine e_iload_n dX3_sizeOfMarrows_7 rfl ?_
  refine e_iald dX3_sizeOfMarrows_8 rfl p rfl (by omega) (by decide) ?_
  refine e_iconst (v := 5) dX3_sizeOfMarrows_9 rfl ?_
  refine e_icmp_ne 27 dX3_sizeOfMarrows_10 (by decide) (fun c10 => ?_) (fun c10 => ?_)
  · refine e_aload_n dX3_sizeOfMarrows_27 rfl ?_
    refine e_iload_n dX3_sizeOfMarrows_28 rfl ?_
    refine e_callVi (n := 1) mX3_marrowSize [.int (nI p)] dX3_sizeOfMarrows_29 ckX3_306 rfl (by decide +kernel) rfl rfl rfl rfl (Nat.le_of_ble_eq_true rfl) ⟨Nat.zero_le _, Nat.zero_le _⟩ (s_CmarrowSize m p hp ht) (fun v29 mz hmz => ?_)
    obtain ⟨e1, e2⟩ := hmz
    subst e1
    exact e_iret dX3_sizeOfMarrows_32 rfl (⟨by unfold sizMar; first | rw [if_pos c10] | rw [if_neg c10], by unfold sizMarB; (first | rw [if_pos c10] | rw [if_neg c10]); exact e2⟩)
  · refine e_aload_n dX3_sizeOfMarrows_13 rfl ?_
    refine e_bipush (v := 14) dX3_sizeOfMarrows_14 rfl ?_
    refine e_callVv (n := 1) mX3_leave [.int 14] dX3_sizeOfMarrows_16 ckX3_296 rfl (by decide +kernel) rfl rfl rfl rfl (Nat.le_of_ble_eq_true rfl) ⟨Nat.zero_le _, Nat.zero_le _⟩ (s_leave m 14 ht) (fun m2 hm2 => ?_)
    obtain rfl := hm2
    refine e_iconst (v := 2) dX3_sizeOfMarrows_19 rfl ?_
    refine e_aload_n dX3_sizeOfMarrows_20 rfl ?_
    refine e_iload_n dX3_sizeOfMarrows_21 rfl ?_
    refine e_callVi (n := 1) mX3_marrowSize [.int (nI p)] dX3_sizeOfMarrows_22 ckX3_306 rfl (by decide +kernel) rfl rfl rfl rfl (Nat.le_of_ble_eq_true rfl) ⟨Nat.zero_le _, Nat.zero_le _⟩ (s_CmarrowSize (begC m 14) p hp (trC_b 14 ht)) (fun v22 mz hmz => ?_)
    obtain ⟨e1, e2⟩ := hmz
    simp only [begC_o (show (24 : Nat) ≠ 0 by decide) (show (24 : Nat) ≠ 97 by decide), begC_o (show (26 : Nat) ≠ 0 by decide) (show (26 : Nat) ≠ 97 by decide), begC_o (show (29 : Nat) ≠ 0 by decide) (show (29 : Nat) ≠ 97 by decide)] at e1
    subst e1
    refine e_imul dX3_sizeOfMarrows_25 ?_
    exact e_iret dX3_sizeOfMarrows_26 rfl (⟨by unfold sizMar; first | rw [if_pos c10] | rw [if_neg c10], by unfold sizMarB; (first | rw [if_pos c10] | rw [if_neg c10]); exact e2⟩)

set_option maxHeartbeats 2000000 in
set_option maxRecDepth 20000 in
theorem s_CmarkOfPlums (m : jM) (p : Nat) (hp : p < 5) (ht : trC m) (h13 : m 24 p = 1 ∨ m 24 p = 2 ∨ m 24 p = 3) : iX mX3_markOfPlums [.ref 0, .int (nI p)] m (fun v m1 => v = markV (m 24 p) (nI p) (m 26 p) (m 29 p) ∧ bgC m (markB (m 24 p)) = m1) := by
  refine jX_of (L := [some (.ref 0), some (.int (nI p))]) 0 rfl rfl (by decide +kernel) rfl ?_
  refine e_aload_n dX3_markOfPlums_0 rfl ?_
  refine e_getR (o := 20) (b := 20) dX3_markOfPlums_1 lkX3_25 rfl rfl (by decide) rfl ?_
  refine e_getR (o := 4) (b := 24) dX3_markOfPlums_4 lkX3_236 rfl rfl (by decide) rfl ?_
  refine e_iload_n dX3_markOfPlums_7 rfl ?_
  refine e_iald dX3_markOfPlums_8 rfl p rfl (by omega) (by decide) ?_
  refine e_iconst (v := 3) dX3_markOfPlums_9 rfl ?_
  refine e_icmp_ne 29 dX3_markOfPlums_10 (by decide) (fun c10 => ?_) (fun c10 => ?_)
  · have k3 : ¬ m 24 p = 3 := by first | exact c10
    refine e_aload_n dX3_markOfPlums_29 rfl ?_
    refine e_getR (o := 20) (b := 20) dX3_markOfPlums_30 lkX3_25 rfl rfl (by decide) rfl ?_
    refine e_getR (o := 4) (b := 24) dX3_markOfPlums_33 lkX3_236 rfl rfl (by decide) rfl ?_
    refine e_iload_n dX3_markOfPlums_36 rfl ?_
    refine e_iald dX3_markOfPlums_37 rfl p rfl (by omega) (by decide) ?_
    refine e_iconst (v := 2) dX3_markOfPlums_38 rfl ?_
    refine e_icmp_ne 56 dX3_markOfPlums_39 (by decide) (fun c39 => ?_) (fun c39 => ?_)
    · have k2 : ¬ m 24 p = 2 := by first | exact c39
      have k1 : m 24 p = 1 := h13.elim id (fun z => z.elim (fun w => absurd w k2) (fun w => absurd w k3))
      refine e_aload_n dX3_markOfPlums_56 rfl ?_
      refine e_iload_n dX3_markOfPlums_57 rfl ?_
      refine e_callVi (n := 1) mX3_plumMark [.int (nI p)] dX3_markOfPlums_58 ckX3_309 rfl (by decide +kernel) rfl rfl rfl rfl (Nat.le_of_ble_eq_true rfl) ⟨Nat.zero_le _, Nat.zero_le _⟩ (s_CplumMark m p hp ht) (fun v58 mz hmz => ?_)
      obtain ⟨e1, e2⟩ := hmz
      subst e1
      exact e_iret dX3_markOfPlums_61 rfl (⟨by unfold markV; (first | rw [if_pos k2] | rw [if_neg k2, if_pos k3] | rw [if_neg k2, if_neg k3, if_pos k1]), by unfold markB; (first | rw [if_pos k2] | rw [if_neg k2, if_pos k3] | rw [if_neg k2, if_neg k3, if_pos k1]); exact e2⟩)
    · have k2 : m 24 p = 2 := by first | exact c39 | exact Classical.byContradiction c39
      refine e_aload_n dX3_markOfPlums_42 rfl ?_
      refine e_bipush (v := 24) dX3_markOfPlums_43 rfl ?_
      refine e_callVv (n := 1) mX3_leave [.int 24] dX3_markOfPlums_45 ckX3_296 rfl (by decide +kernel) rfl rfl rfl rfl (Nat.le_of_ble_eq_true rfl) ⟨Nat.zero_le _, Nat.zero_le _⟩ (s_leave m 24 ht) (fun m2 hm2 => ?_)
      obtain rfl := hm2
      refine e_iconst (v := 2) dX3_markOfPlums_48 rfl ?_
      refine e_aload_n dX3_markOfPlums_49 rfl ?_
      refine e_iload_n dX3_markOfPlums_50 rfl ?_
      refine e_callVi (n := 1) mX3_plumMark [.int (nI p)] dX3_markOfPlums_51 ckX3_309 rfl (by decide +kernel) rfl rfl rfl rfl (Nat.le_of_ble_eq_true rfl) ⟨Nat.zero_le _, Nat.zero_le _⟩ (s_CplumMark (begC m 24) p hp (trC_b 24 ht)) (fun v51 mz hmz => ?_)
      obtain ⟨e1, e2⟩ := hmz
      simp only [begC_o (show (24 : Nat) ≠ 0 by decide) (show (24 : Nat) ≠ 97 by decide), begC_o (show (26 : Nat) ≠ 0 by decide) (show (26 : Nat) ≠ 97 by decide), begC_o (show (29 : Nat) ≠ 0 by decide) (show (29 : Nat) ≠ 97 by decide)] at e1
      subst e1
      refine e_imul dX3_markOfPlums_54 ?_
      exact e_iret dX3_markOfPlums_55 rfl (⟨by unfold markV; (first | rw [if_pos k2] | rw [if_neg k2, if_pos k3] | rw [if_neg k2, if_neg k3, if_pos k1]), by unfold markB; (first | rw [if_pos k2] | rw [if_neg k2, if_pos k3] | rw [if_neg k2, if_neg k3, if_pos k1]); exact e2⟩)
  · have k3 : m 24 p = 3 := by first | exact c10 | exact Classical.byContradiction c10
    have k2 : ¬ m 24 p = 2 := fun z => absurd (k3.symm.trans z) (by decide)
    refine e_aload_n dX3_markOfPlums_13 rfl ?_
    refine e_bipush (v := 22) dX3_markOfPlums_14 rfl ?_
    refine e_callVv (n := 1) mX3_leave [.int 22] dX3_markOfPlums_16 ckX3_296 rfl (by decide +kernel) rfl rfl rfl rfl (Nat.le_of_ble_eq_true rfl) ⟨Nat.zero_le _, Nat.zero_le _⟩ (s_leave m 22 ht) (fun m4 hm4 => ?_)
    obtain rfl := hm4
    refine e_aload_n dX3_markOfPlums_19 rfl ?_
    refine e_iload_n dX3_markOfPlums_20 rfl ?_
    refine e_callVi (n := 1) mX3_plumMark [.int (nI p)] dX3_markOfPlums_21 ckX3_309 rfl (by decide +kernel) rfl rfl rfl rfl (Nat.le_of_ble_eq_true rfl) ⟨Nat.zero_le _, Nat.zero_le _⟩ (s_CplumMark (begC m 22) p hp (trC_b 22 ht)) (fun v21 mz hmz => ?_)
    obtain ⟨e1, e2⟩ := hmz
    simp only [begC_o (show (24 : Nat) ≠ 0 by decide) (show (24 : Nat) ≠ 97 by decide), begC_o (show (26 : Nat) ≠ 0 by decide) (show (26 : Nat) ≠ 97 by decide), begC_o (show (29 : Nat) ≠ 0 by decide) (show (29 : Nat) ≠ 97 by decide)] at e1
    subst e1
    refine e_sipush (v := 1000) dX3_markOfPlums_24 rfl ?_
    refine e_isub dX3_markOfPlums_27 ?_
    exact e_iret dX3_markOfPlums_28 rfl (⟨by unfold markV; (first | rw [if_pos k2] | rw [if_neg k2, if_pos k3] | rw [if_neg k2, if_neg k3, if_pos k1]), by unfold markB; (first | rw [if_pos k2] | rw [if_neg k2, if_pos k3] | rw [if_neg k2, if_neg k3, if_pos k1]); exact e2⟩)

set_option maxHeartbeats 2000000 in
set_option maxRecDepth 20000 in
theorem s_CmarkOfMarrows (m : jM) (p : Nat) (hp : p < 5) (ht : trC m) (h45 : m 24 p = 4 ∨ m 24 p = 5) : iX mX3_markOfMarrows [.ref 0, .int (nI p)] m (fun v m1 => v = markV (m 24 p) (nI p) (m 26 p) (m 29 p) ∧ bgC m (markB (m 24 p)) = m1) := by
  have k1 : ¬ m 24 p = 1 := fun z => h45.elim (fun w => absurd (w.symm.trans z) (by decide)) (fun w => absurd (w.symm.trans z) (by decide))
  have k2 : ¬ m 24 p = 2 := fun z => h45.elim (fun w => absurd (w.symm.trans z) (by decide)) (fun w => absurd (w.symm.trans z) (by decide))
  have k3 : ¬ m 24 p = 3 := fun z => h45.elim (fun w => absurd (w.symm.trans z) (by decide)) (fun w => absurd (w.symm.trans z) (by decide))
  refine jX_of (L := [some (.ref 0), some (.int (nI p)), none]) 1 rfl rfl (by decide +kernel) rfl ?_
  refine e_aload_n dX3_markOfMarrows_0 rfl ?_
  refine e_bipush (v := 23) dX3_markOfMarrows_1 rfl ?_
  refine e_callVv (n := 1) mX3_leave [.int 23] dX3_markOfMarrows_3 ckX3_296 rfl (by decide +kernel) rfl rfl rfl rfl (Nat.le_of_ble_eq_true rfl) ⟨Nat.zero_le _, Nat.zero_le _⟩ (s_leave m 23 ht) (fun m1 hm1 => ?_)
  obtain rfl := hm1
  refine e_aload_n dX3_markOfMarrows_6 rfl ?_
  refine e_iload_n dX3_markOfMarrows_7 rfl ?_
  refine e_callVi (n := 1) mX3_lentMark [.int (nI p)] dX3_markOfMarrows_8 ckX3_312 rfl (by decide +kernel) rfl rfl rfl rfl (Nat.le_of_ble_eq_true rfl) ⟨Nat.zero_le _, Nat.zero_le _⟩ (s_ClentMark (begC m 23) p hp (trC_b 23 ht)) (fun v8 m2 hm2 => ?_)
  obtain ⟨e1, rfl⟩ := hm2
  subst e1
  refine e_istore_n (L' := [some (.ref 0), some (.int (nI p)), some (.int (nI p))]) dX3_markOfMarrows_11 (Nat.le_of_ble_eq_true rfl) (Nat.le_of_ble_eq_true rfl) (jnl_at (i := 1) rfl) rfl ?_
  refine e_iload_n dX3_markOfMarrows_12 rfl ?_
  refine e_aload_n dX3_markOfMarrows_13 rfl ?_
  refine e_iload_n dX3_markOfMarrows_14 rfl ?_
  refine e_callVi (n := 1) mX3_sizeOfMarrows [.int (nI p)] dX3_markOfMarrows_15 ckX3_245 rfl (by decide +kernel) rfl rfl rfl rfl (Nat.le_of_ble_eq_true rfl) ⟨Nat.zero_le _, Nat.zero_le _⟩ (s_CsizeOfMarrows (begC (begC m 23) 20) p hp (trC_b 20 (trC_b 23 ht))) (fun v15 mz hmz => ?_)
  obtain ⟨e1, e2⟩ := hmz
  simp only [begC_o (show (24 : Nat) ≠ 0 by decide) (show (24 : Nat) ≠ 97 by decide), begC_o (show (26 : Nat) ≠ 0 by decide) (show (26 : Nat) ≠ 97 by decide), begC_o (show (29 : Nat) ≠ 0 by decide) (show (29 : Nat) ≠ 97 by decide)] at e1 e2
  subst e1
  refine e_isub dX3_markOfMarrows_18 ?_
  exact e_iret dX3_markOfMarrows_19 rfl (⟨by unfold markV; (first | rw [if_neg k2, if_neg k3, if_neg k1]), by unfold markB; (first | rw [if_neg k2, if_neg k3, if_neg k1]); exact e2⟩)

set_option maxHeartbeats 2000000 in
set_option maxRecDepth 20000 in
theorem s_CplumSize (m : jM) (p : Nat) (hp : p < 5) (ht : trC m) (h13 : m 24 p = 1 ∨ m 24 p = 2 ∨ m 24 p = 3) : iX mX3_plumSize [.ref 0, .int (nI p)] m (fun v m1 => v = m 26 p + markV (m 24 p) (nI p) (m 26 p) (m 29 p) ∧ bgC m (11 :: 10 :: markB (m 24 p)) = m1) := by
  refine jX_of (L := [some (.ref 0), some (.int (nI p)), none]) 1 rfl rfl (by decide +kernel) rfl ?_
  refine e_aload_n dX3_plumSize_0 rfl ?_
  refine e_bipush (v := 11) dX3_plumSize_1 rfl ?_
  refine e_callVv (n := 1) mX3_leave [.int 11] dX3_plumSize_3 ckX3_296 rfl (by decide +kernel) rfl rfl rfl rfl (Nat.le_of_ble_eq_true rfl) ⟨Nat.zero_le _, Nat.zero_le _⟩ (s_leave m 11 ht) (fun m1 hm1 => ?_)
  obtain rfl := hm1
  refine e_aload_n dX3_plumSize_6 rfl ?_
  refine e_iload_n dX3_plumSize_7 rfl ?_
  refine e_callVi (n := 1) mX3_lentSize [.int (nI p)] dX3_plumSize_8 ckX3_303 rfl (by decide +kernel) rfl rfl rfl rfl (Nat.le_of_ble_eq_true rfl) ⟨Nat.zero_le _, Nat.zero_le _⟩ (s_ClentSize (begC m 11) p hp (trC_b 11 ht)) (fun v8 m2 hm2 => ?_)
  obtain ⟨e1, rfl⟩ := hm2
  simp only [begC_o (show (26 : Nat) ≠ 0 by decide) (show (26 : Nat) ≠ 97 by decide)] at e1
  subst e1
  refine e_istore_n (L' := [some (.ref 0), some (.int (nI p)), some (.int (m 26 p))]) dX3_plumSize_11 (Nat.le_of_ble_eq_true rfl) (Nat.le_of_ble_eq_true rfl) (jnl_at (i := 1) rfl) rfl ?_
  refine e_iload_n dX3_plumSize_12 rfl ?_
  refine e_aload_n dX3_plumSize_13 rfl ?_
  refine e_iload_n dX3_plumSize_14 rfl ?_
  refine e_callVi (n := 1) mX3_markOfPlums [.int (nI p)] dX3_plumSize_15 ckX3_248 rfl (by decide +kernel) rfl rfl rfl rfl (Nat.le_of_ble_eq_true rfl) ⟨Nat.zero_le _, Nat.zero_le _⟩ (s_CmarkOfPlums (begC (begC m 11) 10) p hp (trC_b 10 (trC_b 11 ht)) (by simp only [begC_o (show (24 : Nat) ≠ 0 by decide) (show (24 : Nat) ≠ 97 by decide)]; exact h13)) (fun v15 mz hmz => ?_)
  obtain ⟨e1, e2⟩ := hmz
  simp only [begC_o (show (24 : Nat) ≠ 0 by decide) (show (24 : Nat) ≠ 97 by decide), begC_o (show (26 : Nat) ≠ 0 by decide) (show (26 : Nat) ≠ 97 by decide), begC_o (show (29 : Nat) ≠ 0 by decide) (show (29 : Nat) ≠ 97 by decide)] at e1 e2
  subst e1
  refine e_iadd dX3_plumSize_18 ?_
  exact e_iret dX3_plumSize_19 rfl (⟨rfl, e2⟩)

set_option maxHeartbeats 2000000 in
set_option maxRecDepth 20000 in
theorem s_CsizeOfPlums (m : jM) (p : Nat) (hp : p < 5) (ht : trC m) (h13 : m 24 p = 1 ∨ m 24 p = 2 ∨ m 24 p = 3) : iX mX3_sizeOfPlums [.ref 0, .int (nI p)] m (fun v m1 => v = sizeV (m 24 p) (nI p) (m 26 p) (m 29 p) ∧ bgC m (sizeB (m 24 p)) = m1) := by
  have k4 : ¬ 4 ≤ m 24 p := fun z => h13.elim (fun w => absurd z (by rw [w]; decide)) (fun w => w.elim (fun w => absurd z (by rw [w]; decide)) (fun w => absurd z (by rw [w]; decide)))
  refine jX_of (L := [some (.ref 0), some (.int (nI p))]) 0 rfl rfl (by decide +kernel) rfl ?_
  refine e_aload_n dX3_sizeOfPlums_0 rfl ?_
  refine e_getR (o := 20) (b := 20) dX3_sizeOfPlums_1 lkX3_25 rfl rfl (by decide) rfl ?_
  refine e_getR (o := 4) (b := 24) dX3_sizeOfPlums_4 lkX3_236 rfl rfl (by decide) rfl ?_
  refine e_iload_n dX3_sizeOfPlums_7 rfl ?_
  refine e_iald dX3_sizeOfPlums_8 rfl p rfl (by omega) (by decide) ?_
  refine e_iconst (v := 2) dX3_sizeOfPlums_9 rfl ?_
  refine e_icmp_ne 26 dX3_sizeOfPlums_10 (by decide) (fun c10 => ?_) (fun c10 => ?_)
  · refine e_aload_n dX3_sizeOfPlums_26 rfl ?_
    refine e_iload_n dX3_sizeOfPlums_27 rfl ?_
    refine e_callVi (n := 1) mX3_plumSize [.int (nI p)] dX3_sizeOfPlums_28 ckX3_300 rfl (by decide +kernel) rfl rfl rfl rfl (Nat.le_of_ble_eq_true rfl) ⟨Nat.zero_le _, Nat.zero_le _⟩ (s_CplumSize m p hp ht (by exact h13)) (fun v28 mz hmz => ?_)
    obtain ⟨e1, e2⟩ := hmz
    subst e1
    exact e_iret dX3_sizeOfPlums_31 rfl (⟨by unfold sizeV; (first | rw [if_pos (by first | exact c10 | exact Classical.byContradiction c10)] | rw [if_neg c10, if_neg k4]), by unfold sizeB; (first | rw [if_pos (by first | exact c10 | exact Classical.byContradiction c10)] | rw [if_neg c10, if_neg k4]); exact e2⟩)
  · refine e_aload_n dX3_sizeOfPlums_13 rfl ?_
    refine e_bipush (v := 12) dX3_sizeOfPlums_14 rfl ?_
    refine e_callVv (n := 1) mX3_leave [.int 12] dX3_sizeOfPlums_16 ckX3_296 rfl (by decide +kernel) rfl rfl rfl rfl (Nat.le_of_ble_eq_true rfl) ⟨Nat.zero_le _, Nat.zero_le _⟩ (s_leave m 12 ht) (fun m2 hm2 => ?_)
    obtain rfl := hm2
    refine e_aload_n dX3_sizeOfPlums_19 rfl ?_
    refine e_iload_n dX3_sizeOfPlums_20 rfl ?_
    refine e_callVi (n := 1) mX3_plumSize [.int (nI p)] dX3_sizeOfPlums_21 ckX3_300 rfl (by decide +kernel) rfl rfl rfl rfl (Nat.le_of_ble_eq_true rfl) ⟨Nat.zero_le _, Nat.zero_le _⟩ (s_CplumSize (begC m 12) p hp (trC_b 12 ht) (by simp only [begC_o (show (24 : Nat) ≠ 0 by decide) (show (24 : Nat) ≠ 97 by decide)]; exact h13)) (fun v21 mz hmz => ?_)
    obtain ⟨e1, e2⟩ := hmz
    simp only [begC_o (show (24 : Nat) ≠ 0 by decide) (show (24 : Nat) ≠ 97 by decide), begC_o (show (26 : Nat) ≠ 0 by decide) (show (26 : Nat) ≠ 97 by decide), begC_o (show (29 : Nat) ≠ 0 by decide) (show (29 : Nat) ≠ 97 by decide)] at e1 e2
    subst e1
    refine e_ineg dX3_sizeOfPlums_24 ?_
    exact e_iret dX3_sizeOfPlums_25 rfl (⟨by unfold sizeV; (first | rw [if_pos (by first | exact c10 | exact Classical.byContradiction c10)] | rw [if_neg c10, if_neg k4]), by unfold sizeB; (first | rw [if_pos (by first | exact c10 | exact Classical.byContradiction c10)] | rw [if_neg c10, if_neg k4]); exact e2⟩)

set_option maxHeartbeats 2000000 in
set_option maxRecDepth 20000 in
theorem s_take_n (m : jM) (r : Nat) (hr : r < 8) (n : Nat) (i : Int32) (h0 : m (2 + 2 * r) 0 = 0) : iX mX3_takeTune [.ref 0, .ref (2 + 2 * r), .int i, .int (nI n)] m (fun v m1 => v = -1000011 ∧ jst m 0 17 1 = m1) := by
  refine jX_of (L := [some (.ref 0), some (.ref (2 + 2 * r)), some (.int i), some (.int (nI n)), none]) 1 rfl rfl (by decide +kernel) rfl ?_
  refine e_aload_n dX3_takeTune_0 rfl ?_
  refine e_getI dX3_takeTune_1 lkX3_96 (isR_l r hr) rfl ?_
  rw [show m (2 + 2 * r) 0 = 0 from h0]
  refine e_if_ne 13 dX3_takeTune_4 (by decide) (fun h => absurd rfl h) (fun c4 => ?_)
  refine e_aload_n dX3_takeTune_7 rfl ?_
  refine e_iconst (v := 1) dX3_takeTune_8 rfl ?_
  refine e_callVi (n := 1) mX3_found [.int 1] dX3_takeTune_9 ckX3_85 rfl (by decide +kernel) rfl rfl rfl rfl (Nat.le_of_ble_eq_true rfl) ⟨Nat.zero_le _, Nat.zero_le _⟩ (s_found m 1) (fun v9 mw hmw => ?_)
  obtain ⟨rfl, hw⟩ := hmw
  exact e_iret dX3_takeTune_12 rfl (⟨by decide, hw⟩)

set_option maxHeartbeats 2000000 in
set_option maxRecDepth 20000 in
theorem s_take_p (m : jM) (r : Nat) (hr : r < 8) (n : Nat) (hn : n ≤ 16) (i : Int32) (h0 : m (2 + 2 * r) 0 = 1) (k : Nat) (hk : k ≤ 40) (h2 : m (2 + 2 * r) 2 = nI k) (hb : ¬ (0 ≤ i ∧ i ≤ nI k - nI n)) : iX mX3_takeTune [.ref 0, .ref (2 + 2 * r), .int i, .int (nI n)] m (fun v m1 => v = -1000012 ∧ jst m 0 17 2 = m1) := by
  refine jX_of (L := [some (.ref 0), some (.ref (2 + 2 * r)), some (.int i), some (.int (nI n)), none]) 1 rfl rfl (by decide +kernel) rfl ?_
  refine e_aload_n dX3_takeTune_0 rfl ?_
  refine e_getI dX3_takeTune_1 lkX3_96 (isR_l r hr) rfl ?_
  rw [show m (2 + 2 * r) 0 = 1 from h0]
  refine e_if_ne 13 dX3_takeTune_4 (by decide) (fun c4 => ?_) (fun h => absurd h (by decide))
  refine e_aload_n dX3_takeTune_13 rfl ?_
  refine e_iload_n dX3_takeTune_14 rfl ?_
  refine e_iload_n dX3_takeTune_15 rfl ?_
  refine e_callVi (n := 2) mX1_reaches [.int i, .int (nI n)] dX3_takeTune_16 ckX3_100 rfl (by decide +kernel) rfl (isR_l r hr) rfl rfl (Nat.le_of_ble_eq_true rfl) ⟨Nat.zero_le _, Nat.zero_le _⟩ (s_reaches m r hr i (nI n)) (fun v16 m1 hm1 => ?_)
  rcases hm1 with ⟨rfl, ⟨rfl, q1⟩ | ⟨rfl, q1⟩⟩
  · exact False.elim (hb ⟨q1.1, by rw [← h2]; exact q1.2.2⟩)
  · refine e_if_ne 28 dX3_takeTune_19 (by decide) (fun h => absurd h (by decide)) (fun c19 => ?_)
    refine e_aload_n dX3_takeTune_22 rfl ?_
    refine e_iconst (v := 2) dX3_takeTune_23 rfl ?_
    refine e_callVi (n := 1) mX3_found [.int 2] dX3_takeTune_24 ckX3_85 rfl (by decide +kernel) rfl rfl rfl rfl (Nat.le_of_ble_eq_true rfl) ⟨Nat.zero_le _, Nat.zero_le _⟩ (s_found m 2) (fun v24 mw hmw => ?_)
    obtain ⟨rfl, hw⟩ := hmw
    exact e_iret dX3_takeTune_27 rfl (⟨by decide, hw⟩)

set_option maxHeartbeats 2000000 in
set_option maxRecDepth 20000 in
theorem s_take (m : jM) (r : Nat) (hr : r < 8) (n : Nat) (hn : n ≤ 16) (i k : Nat) (h0 : m (2 + 2 * r) 0 = 1) (hk : k ≤ 40) (h2 : m (2 + 2 * r) 2 = nI k) (hik : i + n ≤ k) : iX mX3_takeTune [.ref 0, .ref (2 + 2 * r), .int (nI i), .int (nI n)] m (fun v m1 => v = (if goodB (m (2 + 2 * r + 1)) i n = true then 0 else -1000001) ∧ (∃ f, jup m 91 f = m1) ∧ (goodB (m (2 + 2 * r + 1)) i n = true → ∀ j, j < n → m1 91 j = m (2 + 2 * r + 1) (i + j))) := by
  refine jX_of (L := [some (.ref 0), some (.ref (2 + 2 * r)), some (.int (nI i)), some (.int (nI n)), none]) 1 rfl rfl (by decide +kernel) rfl ?_
  refine e_aload_n dX3_takeTune_0 rfl ?_
  refine e_getI dX3_takeTune_1 lkX3_96 (isR_l r hr) rfl ?_
  rw [show m (2 + 2 * r) 0 = 1 from h0]
  refine e_if_ne 13 dX3_takeTune_4 (by decide) (fun c4 => ?_) (fun h => absurd h (by decide))
  refine e_aload_n dX3_takeTune_13 rfl ?_
  refine e_iload_n dX3_takeTune_14 rfl ?_
  refine e_iload_n dX3_takeTune_15 rfl ?_
  refine e_callVi (n := 2) mX1_reaches [.int (nI i), .int (nI n)] dX3_takeTune_16 ckX3_100 rfl (by decide +kernel) rfl (isR_l r hr) rfl rfl (Nat.le_of_ble_eq_true rfl) ⟨Nat.zero_le _, Nat.zero_le _⟩ (s_reaches m r hr (nI i) (nI n)) (fun v16 m1 hm1 => ?_)
  rcases hm1 with ⟨rfl, ⟨rfl, q1⟩ | ⟨rfl, q1⟩⟩
  · refine e_if_ne 28 dX3_takeTune_19 (by decide) (fun c19 => ?_) (fun h => absurd h (by decide))
    refine e_iconst (v := 0) dX3_takeTune_28 rfl ?_
    refine e_istore (L' := [some (.ref 0), some (.ref (2 + 2 * r)), some (.int (nI i)), some (.int (nI n)), some (.int 0)]) dX3_takeTune_29 (Nat.le_of_ble_eq_true rfl) (Nat.le_of_ble_eq_true rfl) (jnl_at (i := 3) rfl) rfl ?_
    refine e_loopS (σ := Unit) 31 n (fun j _ => [some (.ref 0), some (.ref (2 + 2 * r)), some (.int (nI i)), some (.int (nI n)), some (.int (nI j))]) (fun j _ mm => goodB (m (2 + 2 * r + 1)) i j = true ∧ mm = jup m 91 (va_cpy (m (2 + 2 * r + 1)) (m 91) i 0 j)) 0 () (Nat.zero_le _) rfl (⟨rfl, by rw [cpy_0, jup_id]⟩) ?_ ?_
    · intro _ mm hI
      show jE _ _ 31 [some (.ref 0), some (.ref (2 + 2 * r)), some (.int (nI i)), some (.int (nI n)), some (.int (nI n))] [] mm
      obtain ⟨hI1, hI2⟩ := hI
      refine e_iload dX3_takeTune_31 rfl ?_
      refine e_iload_n dX3_takeTune_33 rfl ?_
      refine e_icmp_ge 79 dX3_takeTune_34 (by decide) (fun c34 => ?_) (fun h => absurd (j_done rfl rfl) h)
      refine e_iconst (v := 0) dX3_takeTune_79 rfl ?_
      exact e_iret dX3_takeTune_80 rfl (⟨(if_pos hI1).symm, ⟨_, hI2.symm⟩, fun _ j hj => by rw [hI2, jup_s]; exact cpy_at hj (Nat.zero_add j)⟩)
    · intro j hk_ _ mm hI ih
      show jE _ _ 31 [some (.ref 0), some (.ref (2 + 2 * r)), some (.int (nI i)), some (.int (nI n)), some (.int (nI j))] [] mm
      obtain ⟨hI1, hI2⟩ := hI
      have hjn := hk_
      refine e_iload dX3_takeTune_31 rfl ?_
      refine e_iload_n dX3_takeTune_33 rfl ?_
      refine e_icmp_ge 79 dX3_takeTune_34 (by decide) (fun h => absurd h (j_more (N := n) rfl rfl (by omega) (by omega))) (fun c34 => ?_)
      refine e_aload_n dX3_takeTune_37 rfl ?_
      refine e_getR (o := 1) (b := 2 + 2 * r + 1) dX3_takeTune_38 lkX3_103 (isR_l r hr) rfl (by decide) rfl ?_
      refine e_iload_n dX3_takeTune_41 rfl ?_
      refine e_iload dX3_takeTune_42 rfl ?_
      refine e_iadd dX3_takeTune_44 ?_
      refine e_iald dX3_takeTune_45 (isR_i r hr) (i + j) (j_add rfl rfl) (by omega) (by decide) ?_
      rw [show mm (2 + 2 * r + 1) (i + j) = m (2 + 2 * r + 1) (i + j) from by rw [hI2, jup_n _ _ (by omega)]]
      refine e_bipush (v := 8) dX3_takeTune_46 rfl ?_
      refine e_callSi (n := 2) mX3_isNot [.int (m (2 + 2 * r + 1) (i + j)), .int 8] dX3_takeTune_48 ckX3_80 rfl (by decide +kernel) rfl rfl (Nat.le_of_ble_eq_true rfl) ⟨Nat.zero_le _, Nat.zero_le _⟩ (s_notN mm (m (2 + 2 * r + 1) (i + j)) 8 8 rfl) (fun v48 m2 hm2 => ?_)
      rcases hm2 with ⟨rfl, ⟨rfl, q2⟩ | ⟨rfl, q2⟩⟩
      · refine e_if_eq 57 dX3_takeTune_51 (by decide) (fun h => absurd h (by decide)) (fun c51 => ?_)
        refine e_ldc dX3_takeTune_54 kkX3_84 ?_
        exact e_iret dX3_takeTune_56 rfl (⟨(if_neg (goodB_f (fun z => q2 z) n hjn)).symm, ⟨_, hI2.symm⟩, fun z => absurd z (goodB_f (fun z => q2 z) n hjn)⟩)
      · have q2 := Classical.not_not.mp q2
        refine e_if_eq 57 dX3_takeTune_51 (by decide) (fun c51 => ?_) (fun h => absurd h (by decide))
        refine e_aload_n dX3_takeTune_57 rfl ?_
        refine e_getR (o := 91) (b := 91) dX3_takeTune_58 lkX3_52 rfl rfl (by decide) rfl ?_
        refine e_iload dX3_takeTune_61 rfl ?_
        refine e_aload_n dX3_takeTune_63 rfl ?_
        refine e_getR (o := 1) (b := 2 + 2 * r + 1) dX3_takeTune_64 lkX3_103 (isR_l r hr) rfl (by decide) rfl ?_
        refine e_iload_n dX3_takeTune_67 rfl ?_
        refine e_iload dX3_takeTune_68 rfl ?_
        refine e_iadd dX3_takeTune_70 ?_
        refine e_iald dX3_takeTune_71 (isR_i r hr) (i + j) (j_add rfl rfl) (by omega) (by decide) ?_
        rw [show mm (2 + 2 * r + 1) (i + j) = m (2 + 2 * r + 1) (i + j) from by rw [hI2, jup_n _ _ (by omega)]]
        refine e_iast dX3_takeTune_72 rfl j rfl (by omega) (by decide) (fun mw hmw => ?_)
        refine e_iinc (v := nI (j + 1)) (L' := [some (.ref 0), some (.ref (2 + 2 * r)), some (.int (nI i)), some (.int (nI n)), some (.int (nI (j + 1)))]) dX3_takeTune_73 rfl (j_inc rfl) (by decide) (jnl_at (i := 3) rfl) rfl ?_
        refine e_goto 31 dX3_takeTune_76 (by decide) ?_
        refine ih () mw ⟨goodB_s hI1 ⟨q2.1, q2.2⟩, ?_⟩
        rw [hmw, hI2, jup_s, jup_jup]
        exact congrArg (jup m 91) (cpy_s0' rfl)
  · exact False.elim (q1 ⟨nI_pos' (by omega), nI_pos' (by omega), by rw [h2, pk_sub (by omega)]; exact (j_le (by omega) (by omega)).mpr (by omega)⟩)
