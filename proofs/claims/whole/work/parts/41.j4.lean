/-! ===== the class: modes, coughs ===== -/
theorem fst_none (f : Nat → Bool) : ∀ c a, cntU f a c = 0 → fstU f a c = -1000000
  | 0, _, _ => rfl
  | c + 1, a, h => by
    rw [cntU_l] at h
    show (if f a = true then nI a else fstU f (a + 1) c) = _
    by_cases e : f a = true
    · rw [if_pos e] at h; omega
    · rw [if_neg e]
      exact fst_none f c (a + 1) (by omega)
theorem gcd_0 {a b : Nat} (ha : a ≤ 100000000) (hb : b ≤ 100000000) : a * b * 2 ^ 0 ≤ (if (0 : Nat) = 0 then 10 ^ 16 else 2 * 10 ^ 16) := by
  rw [if_pos rfl, Nat.pow_zero, Nat.mul_one]
  exact Nat.le_trans (Nat.mul_le_mul ha hb) (by decide)
theorem ten_pos (n : Nat) : 0 < 10 ^ n := Nat.pow_pos (by decide)
set_option maxHeartbeats 2000000 in
set_option maxRecDepth 20000 in
theorem s_Jmodes_b (m : jM) (st : Nat → Int32) (V P : Nat) (hV : V ≤ 3) (hP : P ≤ 5) (hR : RK m 20 st V P) (x y z i n th w : Int32) (hb : ¬ (inN x P ∧ inN y V ∧ inN z 8 ∧ inN n 17 ∧ inN th 21 ∧ inN w 2)) : iX mX3_modes [.ref 0, .int x, .int y, .int z, .int i, .int n, .int th, .int w] m (fun v m1 => v = -1000001 ∧ m = m1) := by
  refine jX_of (L := [some (.ref 0), some (.int x), some (.int y), some (.int z), some (.int i), some (.int n), some (.int th), some (.int w), none, none, none, none]) 4 rfl rfl (by decide +kernel) rfl ?_
  refine e_iload_n dX3_modes_0 rfl ?_
  refine e_aload_n dX3_modes_1 rfl ?_
  refine e_getR (o := 20) (b := 20) dX3_modes_2 lkX3_25 rfl rfl (by decide) rfl ?_
  refine e_getI dX3_modes_5 lkX3_140 rfl rfl ?_
  rw [show m 20 6 = nI P from hR.ps]
  refine e_callSi (n := 2) mX3_isNot [.int x, .int (nI P)] dX3_modes_8 ckX3_80 rfl (by decide +kernel) rfl rfl (Nat.le_of_ble_eq_true rfl) ⟨Nat.zero_le _, Nat.zero_le _⟩ (s_notN m x (nI P) P rfl) (fun v8 m1 hm1 => ?_)
  rcases hm1 with ⟨rfl, ⟨rfl, q⟩ | ⟨rfl, q⟩⟩
  · refine e_if_ne 66 dX3_modes_11 (by decide) (fun c11 => ?_) (fun h => absurd h (by decide))
    refine e_ldc dX3_modes_66 kkX3_84 ?_
    exact e_iret dX3_modes_68 rfl (⟨rfl, rfl⟩)
  · have q := Classical.not_not.mp q
    refine e_if_ne 66 dX3_modes_11 (by decide) (fun h => absurd h (by decide)) (fun c11 => ?_)
    refine e_iload_n dX3_modes_14 rfl ?_
    refine e_aload_n dX3_modes_15 rfl ?_
    refine e_getR (o := 20) (b := 20) dX3_modes_16 lkX3_25 rfl rfl (by decide) rfl ?_
    refine e_getI dX3_modes_19 lkX3_147 rfl rfl ?_
    rw [show m 20 2 = nI V from hR.vs]
    refine e_callSi (n := 2) mX3_isNot [.int y, .int (nI V)] dX3_modes_22 ckX3_80 rfl (by decide +kernel) rfl rfl (Nat.le_of_ble_eq_true rfl) ⟨Nat.zero_le _, Nat.zero_le _⟩ (s_notN m y (nI V) V rfl) (fun v22 m2 hm2 => ?_)
    rcases hm2 with ⟨rfl, ⟨rfl, q1⟩ | ⟨rfl, q1⟩⟩
    · refine e_if_ne 66 dX3_modes_25 (by decide) (fun c25 => ?_) (fun h => absurd h (by decide))
      refine e_ldc dX3_modes_66 kkX3_84 ?_
      exact e_iret dX3_modes_68 rfl (⟨rfl, rfl⟩)
    · have q1 := Classical.not_not.mp q1
      refine e_if_ne 66 dX3_modes_25 (by decide) (fun h => absurd h (by decide)) (fun c25 => ?_)
      refine e_iload_n dX3_modes_28 rfl ?_
      refine e_bipush (v := 8) dX3_modes_29 rfl ?_
      refine e_callSi (n := 2) mX3_isNot [.int z, .int 8] dX3_modes_31 ckX3_80 rfl (by decide +kernel) rfl rfl (Nat.le_of_ble_eq_true rfl) ⟨Nat.zero_le _, Nat.zero_le _⟩ (s_notN m z 8 8 rfl) (fun v31 m3 hm3 => ?_)
      rcases hm3 with ⟨rfl, ⟨rfl, q2⟩ | ⟨rfl, q2⟩⟩
      · refine e_if_ne 66 dX3_modes_34 (by decide) (fun c34 => ?_) (fun h => absurd h (by decide))
        refine e_ldc dX3_modes_66 kkX3_84 ?_
        exact e_iret dX3_modes_68 rfl (⟨rfl, rfl⟩)
      · have q2 := Classical.not_not.mp q2
        refine e_if_ne 66 dX3_modes_34 (by decide) (fun h => absurd h (by decide)) (fun c34 => ?_)
        refine e_iload dX3_modes_37 rfl ?_
        refine e_bipush (v := 17) dX3_modes_39 rfl ?_
        refine e_callSi (n := 2) mX3_isNot [.int n, .int 17] dX3_modes_41 ckX3_80 rfl (by decide +kernel) rfl rfl (Nat.le_of_ble_eq_true rfl) ⟨Nat.zero_le _, Nat.zero_le _⟩ (s_notN m n 17 17 rfl) (fun v41 m4 hm4 => ?_)
        rcases hm4 with ⟨rfl, ⟨rfl, q3⟩ | ⟨rfl, q3⟩⟩
        · refine e_if_ne 66 dX3_modes_44 (by decide) (fun c44 => ?_) (fun h => absurd h (by decide))
          refine e_ldc dX3_modes_66 kkX3_84 ?_
          exact e_iret dX3_modes_68 rfl (⟨rfl, rfl⟩)
        · have q3 := Classical.not_not.mp q3
          refine e_if_ne 66 dX3_modes_44 (by decide) (fun h => absurd h (by decide)) (fun c44 => ?_)
          refine e_iload dX3_modes_47 rfl ?_
          refine e_bipush (v := 21) dX3_modes_49 rfl ?_
          refine e_callSi (n := 2) mX3_isNot [.int th, .int 21] dX3_modes_51 ckX3_80 rfl (by decide +kernel) rfl rfl (Nat.le_of_ble_eq_true rfl) ⟨Nat.zero_le _, Nat.zero_le _⟩ (s_notN m th 21 21 rfl) (fun v51 m5 hm5 => ?_)
          rcases hm5 with ⟨rfl, ⟨rfl, q4⟩ | ⟨rfl, q4⟩⟩
          · refine e_if_ne 66 dX3_modes_54 (by decide) (fun c54 => ?_) (fun h => absurd h (by decide))
            refine e_ldc dX3_modes_66 kkX3_84 ?_
            exact e_iret dX3_modes_68 rfl (⟨rfl, rfl⟩)
          · have q4 := Classical.not_not.mp q4
            refine e_if_ne 66 dX3_modes_54 (by decide) (fun h => absurd h (by decide)) (fun c54 => ?_)
            refine e_iload dX3_modes_57 rfl ?_
            refine e_iconst (v := 2) dX3_modes_59 rfl ?_
            refine e_callSi (n := 2) mX3_isNot [.int w, .int 2] dX3_modes_60 ckX3_80 rfl (by decide +kernel) rfl rfl (Nat.le_of_ble_eq_true rfl) ⟨Nat.zero_le _, Nat.zero_le _⟩ (s_notN m w 2 2 rfl) (fun v60 m6 hm6 => ?_)
            rcases hm6 with ⟨rfl, ⟨rfl, q5⟩ | ⟨rfl, q5⟩⟩
            · refine e_if_eq 69 dX3_modes_63 (by decide) (fun h => absurd h (by decide)) (fun c63 => ?_)
              refine e_ldc dX3_modes_66 kkX3_84 ?_
              exact e_iret dX3_modes_68 rfl (⟨rfl, rfl⟩)
            · have q5 := Classical.not_not.mp q5
              exact False.elim (hb ⟨q, q1, q2, q3, q4, q5⟩)

set_option maxHeartbeats 2000000 in
set_option maxRecDepth 20000 in
theorem s_Jmodes_f (m : jM) (st : Nat → Int32) (V P : Nat) (hV : V ≤ 3) (hP : P ≤ 5) (hR : RK m 20 st V P) (p : Nat) (hp : p < P) (s : Nat) (hs : s < V) (r : Nat) (hr : r < 8) (n : Nat) (hn : n ≤ 16) (th : Int32) (hth : inN th 21) (w : Int32) (hw2 : inN w 2) (i : Int32) (hrw : RW m r) (htn : ¬ tuneOK m r i n) : iX mX3_modes [.ref 0, .int (nI p), .int (nI s), .int (nI r), .int i, .int (nI n), .int th, .int w] m (fun v m1 => v = lackV m r i n ∧ SQ m m1 ∧ m1 0 17 = lackX m r i n) := by
  refine jX_of (L := [some (.ref 0), some (.int (nI p)), some (.int (nI s)), some (.int (nI r)), some (.int i), some (.int (nI n)), some (.int th), some (.int w), none, none, none, none]) 4 rfl rfl (by decide +kernel) rfl ?_
  refine e_iload_n dX3_modes_0 rfl ?_
  refine e_aload_n dX3_modes_1 rfl ?_
  refine e_getR (o := 20) (b := 20) dX3_modes_2 lkX3_25 rfl rfl (by decide) rfl ?_
  refine e_getI dX3_modes_5 lkX3_140 rfl rfl ?_
  rw [show m 20 6 = nI P from hR.ps]
  refine e_callSi (n := 2) mX3_isNot [.int (nI p), .int (nI P)] dX3_modes_8 ckX3_80 rfl (by decide +kernel) rfl rfl (Nat.le_of_ble_eq_true rfl) ⟨Nat.zero_le _, Nat.zero_le _⟩ (s_notN m (nI p) (nI P) P rfl) (fun v8 m1 hm1 => ?_)
  rcases hm1 with ⟨rfl, ⟨rfl, q5⟩ | ⟨rfl, q5⟩⟩
  · exact False.elim (q5 (inN_nI (by omega) hp))
  · have q5 := Classical.not_not.mp q5
    refine e_if_ne 66 dX3_modes_11 (by decide) (fun h => absurd h (by decide)) (fun c11 => ?_)
    refine e_iload_n dX3_modes_14 rfl ?_
    refine e_aload_n dX3_modes_15 rfl ?_
    refine e_getR (o := 20) (b := 20) dX3_modes_16 lkX3_25 rfl rfl (by decide) rfl ?_
    refine e_getI dX3_modes_19 lkX3_147 rfl rfl ?_
    rw [show m 20 2 = nI V from hR.vs]
    refine e_callSi (n := 2) mX3_isNot [.int (nI s), .int (nI V)] dX3_modes_22 ckX3_80 rfl (by decide +kernel) rfl rfl (Nat.le_of_ble_eq_true rfl) ⟨Nat.zero_le _, Nat.zero_le _⟩ (s_notN m (nI s) (nI V) V rfl) (fun v22 m2 hm2 => ?_)
    rcases hm2 with ⟨rfl, ⟨rfl, q6⟩ | ⟨rfl, q6⟩⟩
    · exact False.elim (q6 (inN_nI (by omega) hs))
    · have q6 := Classical.not_not.mp q6
      refine e_if_ne 66 dX3_modes_25 (by decide) (fun h => absurd h (by decide)) (fun c25 => ?_)
      refine e_iload_n dX3_modes_28 rfl ?_
      refine e_bipush (v := 8) dX3_modes_29 rfl ?_
      refine e_callSi (n := 2) mX3_isNot [.int (nI r), .int 8] dX3_modes_31 ckX3_80 rfl (by decide +kernel) rfl rfl (Nat.le_of_ble_eq_true rfl) ⟨Nat.zero_le _, Nat.zero_le _⟩ (s_notN m (nI r) 8 8 rfl) (fun v31 m3 hm3 => ?_)
      rcases hm3 with ⟨rfl, ⟨rfl, q1⟩ | ⟨rfl, q1⟩⟩
      · exact False.elim (q1 (inN_nI (by decide) hr))
      · have q1 := Classical.not_not.mp q1
        refine e_if_ne 66 dX3_modes_34 (by decide) (fun h => absurd h (by decide)) (fun c34 => ?_)
        refine e_iload dX3_modes_37 rfl ?_
        refine e_bipush (v := 17) dX3_modes_39 rfl ?_
        refine e_callSi (n := 2) mX3_isNot [.int (nI n), .int 17] dX3_modes_41 ckX3_80 rfl (by decide +kernel) rfl rfl (Nat.le_of_ble_eq_true rfl) ⟨Nat.zero_le _, Nat.zero_le _⟩ (s_notN m (nI n) 17 17 rfl) (fun v41 m4 hm4 => ?_)
        rcases hm4 with ⟨rfl, ⟨rfl, q2⟩ | ⟨rfl, q2⟩⟩
        · exact False.elim (q2 (inN_nI (by decide) (by omega)))
        · have q2 := Classical.not_not.mp q2
          refine e_if_ne 66 dX3_modes_44 (by decide) (fun h => absurd h (by decide)) (fun c44 => ?_)
          refine e_iload dX3_modes_47 rfl ?_
          refine e_bipush (v := 21) dX3_modes_49 rfl ?_
          refine e_callSi (n := 2) mX3_isNot [.int th, .int 21] dX3_modes_51 ckX3_80 rfl (by decide +kernel) rfl rfl (Nat.le_of_ble_eq_true rfl) ⟨Nat.zero_le _, Nat.zero_le _⟩ (s_notN m th 21 21 rfl) (fun v51 m5 hm5 => ?_)
          rcases hm5 with ⟨rfl, ⟨rfl, q7⟩ | ⟨rfl, q7⟩⟩
          · exact False.elim (q7 (hth))
          · have q7 := Classical.not_not.mp q7
            refine e_if_ne 66 dX3_modes_54 (by decide) (fun h => absurd h (by decide)) (fun c54 => ?_)
            refine e_iload dX3_modes_57 rfl ?_
            refine e_iconst (v := 2) dX3_modes_59 rfl ?_
            refine e_callSi (n := 2) mX3_isNot [.int w, .int 2] dX3_modes_60 ckX3_80 rfl (by decide +kernel) rfl rfl (Nat.le_of_ble_eq_true rfl) ⟨Nat.zero_le _, Nat.zero_le _⟩ (s_notN m w 2 2 rfl) (fun v60 m6 hm6 => ?_)
            rcases hm6 with ⟨rfl, ⟨rfl, q3⟩ | ⟨rfl, q3⟩⟩
            · exact False.elim (q3 (hw2))
            · have q3 := Classical.not_not.mp q3
              refine e_if_eq 69 dX3_modes_63 (by decide) (fun c63 => ?_) (fun h => absurd h (by decide))
              refine e_aload_n dX3_modes_69 rfl ?_
              refine e_aload_n dX3_modes_70 rfl ?_
              refine e_getR (o := 1) (b := 1) dX3_modes_71 lkX3_11 rfl rfl (by decide) rfl ?_
              refine e_iload_n dX3_modes_74 rfl ?_
              refine e_aald (b := 2 + 2 * r) dX3_modes_75 rfl (by decide) r rfl (by omega) (by decide) rfl ?_
              refine e_iload dX3_modes_76 rfl ?_
              refine e_iload dX3_modes_78 rfl ?_
              refine e_callVi (n := 3) mX3_takeTune [.ref (2 + 2 * r), .int i, .int (nI n)] dX3_modes_80 ckX3_198 rfl (by decide +kernel) rfl rfl rfl rfl (Nat.le_of_ble_eq_true rfl) ⟨Nat.zero_le _, Nat.zero_le _⟩ (s_takeF m r hr n (by omega) i hrw htn) (fun v80 mt hmt => ?_)
              obtain ⟨rfl, hl⟩ := hmt
              refine e_istore (L' := [some (.ref 0), some (.int (nI p)), some (.int (nI s)), some (.int (nI r)), some (.int i), some (.int (nI n)), some (.int th), some (.int w), some (.int (lackV m r i n)), none, none, none]) dX3_modes_83 (Nat.le_of_ble_eq_true rfl) (Nat.le_of_ble_eq_true rfl) (jnl_at (i := 7) rfl) rfl ?_
              refine e_iload dX3_modes_85 rfl ?_
              refine e_if_eq 93 dX3_modes_87 (by decide) (fun h => absurd h (lackV_ne0 m r i n)) (fun c87 => ?_)
              refine e_iload dX3_modes_90 rfl ?_
              exact e_iret dX3_modes_92 rfl (⟨rfl, hl⟩)

set_option maxHeartbeats 2000000 in
set_option maxRecDepth 20000 in
theorem s_Jmodes (m : jM) (st : Nat → Int32) (V P : Nat) (hW : WK st V P) (hR : RK m 20 st V P) (h01 : m 20 0 = 1) (p : Nat) (hp : p < P) (s : Nat) (hs : s < V) (th : Int32) (hth : inN th 21) (w : Int32) (hw2 : inN w 2) (r : Nat) (hr : r < 8) (n : Nat) (hn : n ≤ 16) (i k : Nat) (h0 : m (2 + 2 * r) 0 = 1) (hk : k ≤ 40) (h2 : m (2 + 2 * r) 2 = nI k) (hik : i + n ≤ k) (hg : goodB (m (2 + 2 * r + 1)) i n = true) (tn : Nat → Int32) (htn : ∀ j, j < n → m (2 + 2 * r + 1) (i + j) = tn j) : iX mX3_modes [.ref 0, .int (nI p), .int (nI s), .int (nI r), .int (nI i), .int (nI n), .int th, .int w] m (fun v m1 => v = (if w = 0 then nI (cntU (mdP st tn s n V P p th) 0 128) else fstU (mdP st tn s n V P p th) 0 128) ∧ SQ m m1 ∧ m1 0 17 = 0) := by
  have hV := hW.v3
  have hP := hW.p5
  have hto : ∀ j, j < n → ∃ a, a < 8 ∧ tn j = nI a := fun j hj => by rw [← htn j hj]; exact goodB_ok hg j hj
  refine jX_of (L := [some (.ref 0), some (.int (nI p)), some (.int (nI s)), some (.int (nI r)), some (.int (nI i)), some (.int (nI n)), some (.int th), some (.int w), none, none, none, none]) 4 rfl rfl (by decide +kernel) rfl ?_
  refine e_iload_n dX3_modes_0 rfl ?_
  refine e_aload_n dX3_modes_1 rfl ?_
  refine e_getR (o := 20) (b := 20) dX3_modes_2 lkX3_25 rfl rfl (by decide) rfl ?_
  refine e_getI dX3_modes_5 lkX3_140 rfl rfl ?_
  rw [show m 20 6 = nI P from hR.ps]
  refine e_callSi (n := 2) mX3_isNot [.int (nI p), .int (nI P)] dX3_modes_8 ckX3_80 rfl (by decide +kernel) rfl rfl (Nat.le_of_ble_eq_true rfl) ⟨Nat.zero_le _, Nat.zero_le _⟩ (s_notN m (nI p) (nI P) P rfl) (fun v8 m1 hm1 => ?_)
  rcases hm1 with ⟨rfl, ⟨rfl, q5⟩ | ⟨rfl, q5⟩⟩
  · exact False.elim (q5 (inN_nI (by omega) hp))
  · have q5 := Classical.not_not.mp q5
    refine e_if_ne 66 dX3_modes_11 (by decide) (fun h => absurd h (by decide)) (fun c11 => ?_)
    refine e_iload_n dX3_modes_14 rfl ?_
    refine e_aload_n dX3_modes_15 rfl ?_
    refine e_getR (o := 20) (b := 20) dX3_modes_16 lkX3_25 rfl rfl (by decide) rfl ?_
    refine e_getI dX3_modes_19 lkX3_147 rfl rfl ?_
    rw [show m 20 2 = nI V from hR.vs]
    refine e_callSi (n := 2) mX3_isNot [.int (nI s), .int (nI V)] dX3_modes_22 ckX3_80 rfl (by decide +kernel) rfl rfl (Nat.le_of_ble_eq_true rfl) ⟨Nat.zero_le _, Nat.zero_le _⟩ (s_notN m (nI s) (nI V) V rfl) (fun v22 m2 hm2 => ?_)
    rcases hm2 with ⟨rfl, ⟨rfl, q6⟩ | ⟨rfl, q6⟩⟩
    · exact False.elim (q6 (inN_nI (by omega) hs))
    · have q6 := Classical.not_not.mp q6
      refine e_if_ne 66 dX3_modes_25 (by decide) (fun h => absurd h (by decide)) (fun c25 => ?_)
      refine e_iload_n dX3_modes_28 rfl ?_
      refine e_bipush (v := 8) dX3_modes_29 rfl ?_
      refine e_callSi (n := 2) mX3_isNot [.int (nI r), .int 8] dX3_modes_31 ckX3_80 rfl (by decide +kernel) rfl rfl (Nat.le_of_ble_eq_true rfl) ⟨Nat.zero_le _, Nat.zero_le _⟩ (s_notN m (nI r) 8 8 rfl) (fun v31 m3 hm3 => ?_)
      rcases hm3 with ⟨rfl, ⟨rfl, q1⟩ | ⟨rfl, q1⟩⟩
      · exact False.elim (q1 (inN_nI (by decide) hr))
      · have q1 := Classical.not_not.mp q1
        refine e_if_ne 66 dX3_modes_34 (by decide) (fun h => absurd h (by decide)) (fun c34 => ?_)
        refine e_iload dX3_modes_37 rfl ?_
        refine e_bipush (v := 17) dX3_modes_39 rfl ?_
        refine e_callSi (n := 2) mX3_isNot [.int (nI n), .int 17] dX3_modes_41 ckX3_80 rfl (by decide +kernel) rfl rfl (Nat.le_of_ble_eq_true rfl) ⟨Nat.zero_le _, Nat.zero_le _⟩ (s_notN m (nI n) 17 17 rfl) (fun v41 m4 hm4 => ?_)
        rcases hm4 with ⟨rfl, ⟨rfl, q2⟩ | ⟨rfl, q2⟩⟩
        · exact False.elim (q2 (inN_nI (by decide) (by omega)))
        · have q2 := Classical.not_not.mp q2
          refine e_if_ne 66 dX3_modes_44 (by decide) (fun h => absurd h (by decide)) (fun c44 => ?_)
          refine e_iload dX3_modes_47 rfl ?_
          refine e_bipush (v := 21) dX3_modes_49 rfl ?_
          refine e_callSi (n := 2) mX3_isNot [.int th, .int 21] dX3_modes_51 ckX3_80 rfl (by decide +kernel) rfl rfl (Nat.le_of_ble_eq_true rfl) ⟨Nat.zero_le _, Nat.zero_le _⟩ (s_notN m th 21 21 rfl) (fun v51 m5 hm5 => ?_)
          rcases hm5 with ⟨rfl, ⟨rfl, q7⟩ | ⟨rfl, q7⟩⟩
          · exact False.elim (q7 (hth))
          · have q7 := Classical.not_not.mp q7
            refine e_if_ne 66 dX3_modes_54 (by decide) (fun h => absurd h (by decide)) (fun c54 => ?_)
            refine e_iload dX3_modes_57 rfl ?_
            refine e_iconst (v := 2) dX3_modes_59 rfl ?_
            refine e_callSi (n := 2) mX3_isNot [.int w, .int 2] dX3_modes_60 ckX3_80 rfl (by decide +kernel) rfl rfl (Nat.le_of_ble_eq_true rfl) ⟨Nat.zero_le _, Nat.zero_le _⟩ (s_notN m w 2 2 rfl) (fun v60 m6 hm6 => ?_)
            rcases hm6 with ⟨rfl, ⟨rfl, q3⟩ | ⟨rfl, q3⟩⟩
            · exact False.elim (q3 (hw2))
            · have q3 := Classical.not_not.mp q3
              refine e_if_eq 69 dX3_modes_63 (by decide) (fun c63 => ?_) (fun h => absurd h (by decide))
              refine e_aload_n dX3_modes_69 rfl ?_
              refine e_aload_n dX3_modes_70 rfl ?_
              refine e_getR (o := 1) (b := 1) dX3_modes_71 lkX3_11 rfl rfl (by decide) rfl ?_
              refine e_iload_n dX3_modes_74 rfl ?_
              refine e_aald (b := 2 + 2 * r) dX3_modes_75 rfl (by decide) r rfl (by omega) (by decide) rfl ?_
              refine e_iload dX3_modes_76 rfl ?_
              refine e_iload dX3_modes_78 rfl ?_
              refine e_callVi (n := 3) mX3_takeTune [.ref (2 + 2 * r), .int (nI i), .int (nI n)] dX3_modes_80 ckX3_198 rfl (by decide +kernel) rfl rfl rfl rfl (Nat.le_of_ble_eq_true rfl) ⟨Nat.zero_le _, Nat.zero_le _⟩ (s_take m r hr n (by omega) i k h0 hk h2 hik) (fun v80 mt hmt => ?_)
              obtain ⟨ev, ⟨ft, eft⟩, e91⟩ := hmt
              rw [if_pos hg] at ev
              subst ev
              have h91 : ∀ j, j < n → mt 91 j = tn j := fun j hj => (e91 hg j hj).trans (htn j hj)
              have hq : SQ m mt := by rw [← eft]; exact SQ.p m ft
              refine e_istore (L' := [some (.ref 0), some (.int (nI p)), some (.int (nI s)), some (.int (nI r)), some (.int (nI i)), some (.int (nI n)), some (.int th), some (.int w), some (.int 0), none, none, none]) dX3_modes_83 (Nat.le_of_ble_eq_true rfl) (Nat.le_of_ble_eq_true rfl) (jnl_at (i := 7) rfl) rfl ?_
              refine e_iload dX3_modes_85 rfl ?_
              refine e_if_eq 93 dX3_modes_87 (by decide) (fun c87 => ?_) (fun h => absurd h (by decide))
              refine e_iconst (v := 0) dX3_modes_93 rfl ?_
              refine e_istore (L' := [some (.ref 0), some (.int (nI p)), some (.int (nI s)), some (.int (nI r)), some (.int (nI i)), some (.int (nI n)), some (.int th), some (.int w), some (.int 0), some (.int 0), none, none]) dX3_modes_94 (Nat.le_of_ble_eq_true rfl) (Nat.le_of_ble_eq_true rfl) (jnl_at (i := 8) rfl) rfl ?_
              refine e_ldc dX3_modes_96 kkX3_221 ?_
              refine e_istore (L' := [some (.ref 0), some (.int (nI p)), some (.int (nI s)), some (.int (nI r)), some (.int (nI i)), some (.int (nI n)), some (.int th), some (.int w), some (.int 0), some (.int 0), some (.int (-1000000)), none]) dX3_modes_98 (Nat.le_of_ble_eq_true rfl) (Nat.le_of_ble_eq_true rfl) (jnl_at (i := 9) rfl) rfl ?_
              refine e_iconst (v := 0) dX3_modes_100 rfl ?_
              refine e_istore (L' := [some (.ref 0), some (.int (nI p)), some (.int (nI s)), some (.int (nI r)), some (.int (nI i)), some (.int (nI n)), some (.int th), some (.int w), some (.int 0), some (.int 0), some (.int (-1000000)), some (.int 0)]) dX3_modes_101 (Nat.le_of_ble_eq_true rfl) (Nat.le_of_ble_eq_true rfl) (jnl_at (i := 10) rfl) rfl ?_
              refine e_loopS (σ := Unit) 103 128 (fun u _ => [some (.ref 0), some (.int (nI p)), some (.int (nI s)), some (.int (nI r)), some (.int (nI i)), some (.int (nI n)), some (.int th), some (.int w), some (.int 0), some (.int (nI (cntU (mdP st tn s n V P p th) 0 u))), some (.int (fstU (mdP st tn s n V P p th) 0 u)), some (.int (nI u))]) (fun u _ mm => SQ m mm ∧ ∀ j, j < n → mm 91 j = tn j) 0 () (Nat.zero_le _) rfl (⟨hq, h91⟩) ?_ ?_
              · intro _ mm hI
                show jE _ _ 103 [some (.ref 0), some (.int (nI p)), some (.int (nI s)), some (.int (nI r)), some (.int (nI i)), some (.int (nI n)), some (.int th), some (.int w), some (.int 0), some (.int (nI (cntU (mdP st tn s n V P p th) 0 128))), some (.int (fstU (mdP st tn s n V P p th) 0 128)), some (.int (nI 128))] [] mm
                obtain ⟨hqm, h91⟩ := hI
                refine e_iload dX3_modes_103 rfl ?_
                refine e_sipush (v := 128) dX3_modes_105 rfl ?_
                refine e_icmp_ge 178 dX3_modes_108 (by decide) (fun c108 => ?_) (fun h => absurd (j_done rfl rfl) h)
                refine e_aload_n dX3_modes_178 rfl ?_
                refine e_iload dX3_modes_179 rfl ?_
                refine e_if_ne 189 dX3_modes_181 (by decide) (fun c181 => ?_) (fun c181 => ?_)
                · refine e_iload dX3_modes_189 rfl ?_
                  refine e_callVi (n := 1) mX3_fine [.int (fstU (mdP st tn s n V P p th) 0 128)] dX3_modes_191 ckX3_93 rfl (by decide +kernel) rfl rfl rfl rfl (Nat.le_of_ble_eq_true rfl) ⟨Nat.zero_le _, Nat.zero_le _⟩ (s_fine mm (fstU (mdP st tn s n V P p th) 0 128)) (fun v191 mw hmw => ?_)
                  obtain ⟨rfl, hw⟩ := hmw
                  exact e_iret dX3_modes_194 rfl (⟨by first | rw [if_pos (by first | exact c181 | exact Classical.byContradiction c181)] | rw [if_neg c181], by rw [← hw]; exact hqm.tr (SQ.s _ 0), by rw [← hw, jup_s, upd_s]⟩)
                · refine e_iload dX3_modes_184 rfl ?_
                  refine e_goto 191 dX3_modes_186 (by decide) ?_
                  refine e_callVi (n := 1) mX3_fine [.int (nI (cntU (mdP st tn s n V P p th) 0 128))] dX3_modes_191 ckX3_93 rfl (by decide +kernel) rfl rfl rfl rfl (Nat.le_of_ble_eq_true rfl) ⟨Nat.zero_le _, Nat.zero_le _⟩ (s_fine mm (nI (cntU (mdP st tn s n V P p th) 0 128))) (fun v191 mw hmw => ?_)
                  obtain ⟨rfl, hw⟩ := hmw
                  exact e_iret dX3_modes_194 rfl (⟨by first | rw [if_pos (by first | exact c181 | exact Classical.byContradiction c181)] | rw [if_neg c181], by rw [← hw]; exact hqm.tr (SQ.s _ 0), by rw [← hw, jup_s, upd_s]⟩)
              · intro u hk_ _ mm hI ih
                show jE _ _ 103 [some (.ref 0), some (.int (nI p)), some (.int (nI s)), some (.int (nI r)), some (.int (nI i)), some (.int (nI n)), some (.int th), some (.int w), some (.int 0), some (.int (nI (cntU (mdP st tn s n V P p th) 0 u))), some (.int (fstU (mdP st tn s n V P p th) 0 u)), some (.int (nI u))] [] mm
                obtain ⟨hqm, h91⟩ := hI
                have hu : u < 128 := hk_
                refine e_iload dX3_modes_103 rfl ?_
                refine e_sipush (v := 128) dX3_modes_105 rfl ?_
                refine e_icmp_ge 178 dX3_modes_108 (by decide) (fun h => absurd h (j_more (N := 128) rfl rfl (by omega) (by omega))) (fun c108 => ?_)
                refine e_aload_n dX3_modes_111 rfl ?_
                refine e_getR (o := 31) (b := 31) dX3_modes_112 lkX3_29 rfl rfl (by decide) rfl ?_
                refine e_aload_n dX3_modes_115 rfl ?_
                refine e_getR (o := 20) (b := 20) dX3_modes_116 lkX3_25 rfl rfl (by decide) rfl ?_
                refine e_callVv (n := 1) mX0_takeFrom [.ref 20] dX3_modes_119 ckX3_137 rfl (by decide +kernel) rfl rfl rfl rfl (Nat.le_of_ble_eq_true rfl) ⟨Nat.zero_le _, Nat.zero_le _⟩ (s_trial _ mm hqm st V P hW hR (Or.inr h01)) (fun mu hmu => ?_)
                obtain ⟨hRu, hqu, eu⟩ := hmu
                refine e_aload_n dX3_modes_122 rfl ?_
                refine e_getR (o := 31) (b := 31) dX3_modes_123 lkX3_29 rfl rfl (by decide) rfl ?_
                refine e_getR (o := 5) (b := 36) dX3_modes_126 lkX3_170 rfl rfl (by decide) rfl ?_
                refine e_iload_n dX3_modes_129 rfl ?_
                refine e_iload dX3_modes_130 rfl ?_
                refine e_iast dX3_modes_132 rfl p rfl (by omega) (by decide) (fun mh hmh => ?_)
                refine e_aload_n dX3_modes_133 rfl ?_
                refine e_iload_n dX3_modes_134 rfl ?_
                refine e_iload dX3_modes_135 rfl ?_
                refine e_iconst (v := 0) dX3_modes_137 rfl ?_
                have hWs : WK (upd st (21 + p) (nI u)) V P := hW.mds hp ⟨nI_pos' (by omega), (j_le (b := 127) (by omega) (by decide)).mpr (by omega)⟩
                have hRs : RK mh 31 (upd st (21 + p) (nI u)) V P := by rw [hmh]; exact hRu.w_md hV hP hp _
                have hqs : SQ m mh := hqu.tr (SQ.k (fun c hc => by rw [hmh, jup_n _ _ (by omega)]))
                refine e_callVv (n := 3) mX3_trySolo [.int (nI s), .int (nI n), .int 0] dX3_modes_138 ckX3_202 rfl (by decide +kernel) rfl rfl rfl rfl (Nat.le_of_ble_eq_true rfl) ⟨Nat.zero_le _, Nat.zero_le _⟩ (s_solo _ mh hqs (upd st (21 + p) (nI u)) V P hWs hRs s hs n (by omega) tn (fun j hj => by rw [hmh, jup_n _ _ (by decide), eu]; exact h91 j hj) hto 0 (by decide)) (fun mv hmv => ?_)
                obtain ⟨hRv, hqv, e91v⟩ := hmv
                refine e_aload_n dX3_modes_141 rfl ?_
                refine e_getR (o := 31) (b := 31) dX3_modes_142 lkX3_29 rfl rfl (by decide) rfl ?_
                refine e_getR (o := 9) (b := 40) dX3_modes_145 lkX3_176 rfl rfl (by decide) rfl ?_
                refine e_iload_n dX3_modes_148 rfl ?_
                refine e_iald dX3_modes_149 rfl p rfl (by omega) (by decide) ?_
                rw [show mv 40 p = aloneB (upd st (21 + p) (nI u)) s tn 0 V P n (36 + p) from hRv.tk p hp]
                refine e_iload dX3_modes_150 rfl ?_
                refine e_icmp_ne 172 dX3_modes_152 (by decide) (fun c152 => ?_) (fun c152 => ?_)
                · refine e_iinc (v := nI (u + 1)) (L' := [some (.ref 0), some (.int (nI p)), some (.int (nI s)), some (.int (nI r)), some (.int (nI i)), some (.int (nI n)), some (.int th), some (.int w), some (.int 0), some (.int (nI (cntU (mdP st tn s n V P p th) 0 u))), some (.int (fstU (mdP st tn s n V P p th) 0 u)), some (.int (nI (u + 1)))]) dX3_modes_172 rfl (j_inc rfl) (by decide) (jnl_at (i := 10) rfl) rfl ?_
                  refine e_goto 103 dX3_modes_175 (by decide) ?_
                  have eM : mdP st tn s n V P p th u = false := decide_eq_false c152
                  have eC : cntU (mdP st tn s n V P p th) 0 (u + 1) = cntU (mdP st tn s n V P p th) 0 u := by show cntU (mdP st tn s n V P p th) 0 u + (if mdP st tn s n V P p th (0 + u) = true then 1 else 0) = _; rw [Nat.zero_add, if_neg (by rw [eM]; decide)]; rfl
                  have eF : fstU (mdP st tn s n V P p th) 0 (u + 1) = fstU (mdP st tn s n V P p th) 0 u := by
                    rw [fstU_r, Nat.zero_add, if_neg (show ¬ mdP st tn s n V P p th u = true from by rw [eM]; decide)]
                    by_cases h : cntU (mdP st tn s n V P p th) 0 u = 0
                    · rw [if_pos h, fst_none (mdP st tn s n V P p th) u 0 h]
                    · rw [if_neg h]
                  refine e_start (by simp only [eC, eF]) rfl (ih () mv ⟨hqv, fun j hj => by rw [e91v, hmh, jup_n _ _ (by decide), eu]; exact h91 j hj⟩)
                · refine e_iload dX3_modes_155 rfl ?_
                  refine e_if_ne 165 dX3_modes_157 (by decide) (fun c157 => ?_) (fun c157 => ?_)
                  · refine e_iload dX3_modes_165 rfl ?_
                    refine e_istore (L' := [some (.ref 0), some (.int (nI p)), some (.int (nI s)), some (.int (nI r)), some (.int (nI i)), some (.int (nI n)), some (.int th), some (.int w), some (.int 0), some (.int (nI (cntU (mdP st tn s n V P p th) 0 u))), some (.int (fstU (mdP st tn s n V P p th) 0 u)), some (.int (nI u))]) dX3_modes_167 (Nat.le_of_ble_eq_true rfl) (Nat.le_of_ble_eq_true rfl) (jnl_at (i := 9) rfl) rfl ?_
                    refine e_iinc (v := nI ((cntU (mdP st tn s n V P p th) 0 u) + 1)) (L' := [some (.ref 0), some (.int (nI p)), some (.int (nI s)), some (.int (nI r)), some (.int (nI i)), some (.int (nI n)), some (.int th), some (.int w), some (.int 0), some (.int (nI ((cntU (mdP st tn s n V P p th) 0 u) + 1))), some (.int (fstU (mdP st tn s n V P p th) 0 u)), some (.int (nI u))]) dX3_modes_169 rfl (j_inc rfl) (by decide) (jnl_at (i := 8) rfl) rfl ?_
                    refine e_iinc (v := nI (u + 1)) (L' := [some (.ref 0), some (.int (nI p)), some (.int (nI s)), some (.int (nI r)), some (.int (nI i)), some (.int (nI n)), some (.int th), some (.int w), some (.int 0), some (.int (nI ((cntU (mdP st tn s n V P p th) 0 u) + 1))), some (.int (fstU (mdP st tn s n V P p th) 0 u)), some (.int (nI (u + 1)))]) dX3_modes_172 rfl (j_inc rfl) (by decide) (jnl_at (i := 10) rfl) rfl ?_
                    refine e_goto 103 dX3_modes_175 (by decide) ?_
                    have eM : mdP st tn s n V P p th u = true := decide_eq_true (by first | exact c152 | exact Classical.byContradiction c152)
                    have eC : cntU (mdP st tn s n V P p th) 0 (u + 1) = cntU (mdP st tn s n V P p th) 0 u + 1 := by show cntU (mdP st tn s n V P p th) 0 u + (if mdP st tn s n V P p th (0 + u) = true then 1 else 0) = _; rw [Nat.zero_add, if_pos eM]
                    have eF : fstU (mdP st tn s n V P p th) 0 (u + 1) = fstU (mdP st tn s n V P p th) 0 u := by
                      rw [fstU_r, if_neg (fun z => c157 (by rw [z]; rfl))]
                    refine e_start (by simp only [eC, eF]) rfl (ih () mv ⟨hqv, fun j hj => by rw [e91v, hmh, jup_n _ _ (by decide), eu]; exact h91 j hj⟩)
                  · refine e_iload dX3_modes_160 rfl ?_
                    refine e_goto 167 dX3_modes_162 (by decide) ?_
                    refine e_istore (L' := [some (.ref 0), some (.int (nI p)), some (.int (nI s)), some (.int (nI r)), some (.int (nI i)), some (.int (nI n)), some (.int th), some (.int w), some (.int 0), some (.int (nI (cntU (mdP st tn s n V P p th) 0 u))), some (.int (nI u)), some (.int (nI u))]) dX3_modes_167 (Nat.le_of_ble_eq_true rfl) (Nat.le_of_ble_eq_true rfl) (jnl_at (i := 9) rfl) rfl ?_
                    refine e_iinc (v := nI ((cntU (mdP st tn s n V P p th) 0 u) + 1)) (L' := [some (.ref 0), some (.int (nI p)), some (.int (nI s)), some (.int (nI r)), some (.int (nI i)), some (.int (nI n)), some (.int th), some (.int w), some (.int 0), some (.int (nI ((cntU (mdP st tn s n V P p th) 0 u) + 1))), some (.int (nI u)), some (.int (nI u))]) dX3_modes_169 rfl (j_inc rfl) (by decide) (jnl_at (i := 8) rfl) rfl ?_
                    refine e_iinc (v := nI (u + 1)) (L' := [some (.ref 0), some (.int (nI p)), some (.int (nI s)), some (.int (nI r)), some (.int (nI i)), some (.int (nI n)), some (.int th), some (.int w), some (.int 0), some (.int (nI ((cntU (mdP st tn s n V P p th) 0 u) + 1))), some (.int (nI u)), some (.int (nI (u + 1)))]) dX3_modes_172 rfl (j_inc rfl) (by decide) (jnl_at (i := 10) rfl) rfl ?_
                    refine e_goto 103 dX3_modes_175 (by decide) ?_
                    have eM : mdP st tn s n V P p th u = true := decide_eq_true (by first | exact c152 | exact Classical.byContradiction c152)
                    have eC : cntU (mdP st tn s n V P p th) 0 (u + 1) = cntU (mdP st tn s n V P p th) 0 u + 1 := by show cntU (mdP st tn s n V P p th) 0 u + (if mdP st tn s n V P p th (0 + u) = true then 1 else 0) = _; rw [Nat.zero_add, if_pos eM]
                    have eF : fstU (mdP st tn s n V P p th) 0 (u + 1) = nI u := by
                      rw [fstU_r, Nat.zero_add, if_pos ((j_eq (a := cntU (mdP st tn s n V P p th) 0 u) (b := 0) (by have := cntU_le (mdP st tn s n V P p th) 0 u; omega) (by decide)).mp (by first | exact c157 | exact Classical.byContradiction c157)), if_pos eM]
                    refine e_start (by simp only [eC, eF]) rfl (ih () mv ⟨hqv, fun j hj => by rw [e91v, hmh, jup_n _ _ (by decide), eu]; exact h91 j hj⟩)

set_option maxHeartbeats 2000000 in
set_option maxRecDepth 20000 in
theorem s_weight (m : jM) (u n c : Nat) (hn : n ≤ 8) (hu : u < 2 ^ n) (hc : c ≤ 10) : iX mX3_weightOf [.int (nI u), .int (nI n), .int (nI c)] m (fun v m1 => v = nI (prN c u n) ∧ m = m1) := by
  have h256 := two_le hn
  have hpl := pc_le (n := n) (k := u) (by omega) hu
  refine jX_of (L := [some (.int (nI u)), some (.int (nI n)), some (.int (nI c)), none]) 1 rfl rfl (by decide +kernel) rfl ?_
  refine e_iload_n dX3_weightOf_0 rfl ?_
  refine e_callSi (n := 1) mInt_bitCount [.int (nI u)] dX3_weightOf_1 ckX3_209 rfl (by decide +kernel) rfl rfl (Nat.le_of_ble_eq_true rfl) ⟨Nat.zero_le _, Nat.zero_le _⟩ (s_bitX m (nI u)) (fun v1 m1 hm1 => ?_)
  obtain ⟨rfl, rfl⟩ := hm1
  rw [bcX_k u (by omega)]
  refine e_istore_n (L' := [some (.int (nI u)), some (.int (nI n)), some (.int (nI c)), some (.int (nI (popc u)))]) dX3_weightOf_4 (Nat.le_of_ble_eq_true rfl) (Nat.le_of_ble_eq_true rfl) (jnl_at (i := 2) rfl) rfl ?_
  refine e_iload_n dX3_weightOf_5 rfl ?_
  refine e_iload_n dX3_weightOf_6 rfl ?_
  refine e_callSi (n := 2) mX3_power [.int (nI c), .int (nI (popc u))] dX3_weightOf_7 ckX3_229 rfl (by decide +kernel) rfl rfl (Nat.le_of_ble_eq_true rfl) ⟨Nat.zero_le _, Nat.zero_le _⟩ (s_power m c (popc u) (by omega)) (fun v7 m2 hm2 => ?_)
  obtain ⟨rfl, rfl⟩ := hm2
  refine e_bipush (v := 10) dX3_weightOf_10 rfl ?_
  refine e_iload_n dX3_weightOf_12 rfl ?_
  refine e_isub dX3_weightOf_13 ?_
  rw [show 10 - (nI c) = nI (10 - c) from pk_sub (a := 10) (b := c) hc]
  refine e_iload_n dX3_weightOf_14 rfl ?_
  refine e_iload_n dX3_weightOf_15 rfl ?_
  refine e_isub dX3_weightOf_16 ?_
  rw [show (nI n) - (nI (popc u)) = nI (n - popc u) from pk_sub (by omega)]
  refine e_callSi (n := 2) mX3_power [.int (nI (10 - c)), .int (nI (n - popc u))] dX3_weightOf_17 ckX3_229 rfl (by decide +kernel) rfl rfl (Nat.le_of_ble_eq_true rfl) ⟨Nat.zero_le _, Nat.zero_le _⟩ (s_power m (10 - c) (n - popc u) (by omega)) (fun v17 m3 hm3 => ?_)
  obtain ⟨rfl, rfl⟩ := hm3
  refine e_imul dX3_weightOf_20 ?_
  rw [show (nI (c ^ popc u)) * (nI ((10 - c) ^ (n - popc u))) = nI ((c ^ popc u) * ((10 - c) ^ (n - popc u))) from (j_mul rfl rfl)]
  exact e_iret dX3_weightOf_21 rfl (⟨by rw [wgt_ok (by omega) hu], rfl⟩)

set_option maxHeartbeats 2000000 in
set_option maxRecDepth 20000 in
theorem s_gcd (m : jM) (a b : Nat) (ha : a ≤ 100000000) (hb : 0 < b) (hb2 : b ≤ 100000000) : iX mX3_commonDivisor [.int (nI a), .int (nI b)] m (fun v m1 => v = nI (Nat.gcd a b) ∧ m = m1) := by
  refine jX_of (L := [some (.int (nI a)), some (.int (nI b)), none, none, none, none]) 4 rfl rfl (by decide +kernel) rfl ?_
  refine e_iload_n dX3_commonDivisor_0 rfl ?_
  refine e_istore_n (L' := [some (.int (nI a)), some (.int (nI b)), some (.int (nI a)), none, none, none]) dX3_commonDivisor_1 (Nat.le_of_ble_eq_true rfl) (Nat.le_of_ble_eq_true rfl) (jnl_at (i := 1) rfl) rfl ?_
  refine e_iload_n dX3_commonDivisor_2 rfl ?_
  refine e_istore_n (L' := [some (.int (nI a)), some (.int (nI b)), some (.int (nI a)), some (.int (nI b)), none, none]) dX3_commonDivisor_3 (Nat.le_of_ble_eq_true rfl) (Nat.le_of_ble_eq_true rfl) (jnl_at (i := 2) rfl) rfl ?_
  refine e_iconst (v := 0) dX3_commonDivisor_4 rfl ?_
  refine e_istore (L' := [some (.int (nI a)), some (.int (nI b)), some (.int (nI a)), some (.int (nI b)), some (.int 0), none]) dX3_commonDivisor_5 (Nat.le_of_ble_eq_true rfl) (Nat.le_of_ble_eq_true rfl) (jnl_at (i := 3) rfl) rfl ?_
  refine e_loopS (σ := Nat × Nat) 7 100 (fun t ⟨x, y⟩ => [some (.int (nI a)), some (.int (nI b)), some (.int (nI x)), some (.int (nI y)), some (.int (nI t)), none]) (fun t ⟨x, y⟩ mm => mm = m ∧ Nat.gcd x y = Nat.gcd a b ∧ x ≤ 100000000 ∧ y ≤ 100000000 ∧ (t = 0 ∨ y ≤ x) ∧ x * y * 2 ^ t ≤ (if t = 0 then 10 ^ 16 else 2 * 10 ^ 16)) 0 (a, b) (Nat.zero_le _) rfl (⟨rfl, rfl, ha, hb2, Or.inl rfl, gcd_0 ha hb2⟩) ?_ ?_
  · intro ss mm hI
    obtain ⟨x, y⟩ := ss
    show jE _ _ 7 [some (.int (nI a)), some (.int (nI b)), some (.int (nI x)), some (.int (nI y)), some (.int (nI 100)), none] [] mm
    obtain ⟨hI1, hI2, hx, hy, hI5, hI6⟩ := hI
    subst hI1
    have y0 : y = 0 := gcd_end (hI5.elim (fun z => absurd z (by decide)) id) (by rw [if_neg (by decide)] at hI6; exact hI6)
    have eG : x = Nat.gcd a b := by rw [← hI2, y0, Nat.gcd_zero_right]
    have x1 : 1 ≤ x := by rw [eG]; exact Nat.gcd_pos_of_pos_right _ hb
    refine e_iload dX3_commonDivisor_7 rfl ?_
    refine e_bipush (v := 100) dX3_commonDivisor_9 rfl ?_
    refine e_icmp_ge 34 dX3_commonDivisor_11 (by decide) (fun c11 => ?_) (fun h => absurd (j_done rfl rfl) h)
    refine e_iload_n dX3_commonDivisor_34 rfl ?_
    refine e_iconst (v := 1) dX3_commonDivisor_35 rfl ?_
    refine e_callSi (n := 2) mMath_max [.int (nI x), .int 1] dX3_commonDivisor_36 ckX3_290 rfl (by decide +kernel) rfl rfl (Nat.le_of_ble_eq_true rfl) ⟨Nat.zero_le _, Nat.zero_le _⟩ (s_max mm (nI x) 1) (fun v36 m1 hm1 => ?_)
    obtain ⟨rfl, rfl⟩ := hm1
    rw [show (if nI x < 1 then (1 : Int32) else nI x) = nI (Nat.gcd a b) from by rw [if_neg (show ¬ nI x < 1 from fun z => absurd ((j_lt (a := x) (b := 1) (by omega) (by decide)).mp z) (by omega)), eG]]
    exact e_iret dX3_commonDivisor_39 rfl (⟨rfl, rfl⟩)
  · intro t hk ss mm hI ih
    obtain ⟨x, y⟩ := ss
    show jE _ _ 7 [some (.int (nI a)), some (.int (nI b)), some (.int (nI x)), some (.int (nI y)), some (.int (nI t)), none] [] mm
    obtain ⟨hI1, hI2, hx, hy, hI5, hI6⟩ := hI
    subst hI1
    refine e_iload dX3_commonDivisor_7 rfl ?_
    refine e_bipush (v := 100) dX3_commonDivisor_9 rfl ?_
    refine e_icmp_ge 34 dX3_commonDivisor_11 (by decide) (fun h => absurd h (j_more (N := 100) rfl rfl (by omega) (by omega))) (fun c11 => ?_)
    refine e_iload_n dX3_commonDivisor_14 rfl ?_
    refine e_if_eq 34 dX3_commonDivisor_15 (by decide) (fun c15 => ?_) (fun c15 => ?_)
    · have y0 : y = 0 := (j_eq (a := y) (b := 0) (by omega) (by decide)).mp c15
      have eG : x = Nat.gcd a b := by rw [← hI2, y0, Nat.gcd_zero_right]
      have x1 : 1 ≤ x := by rw [eG]; exact Nat.gcd_pos_of_pos_right _ hb
      refine e_iload_n dX3_commonDivisor_34 rfl ?_
      refine e_iconst (v := 1) dX3_commonDivisor_35 rfl ?_
      refine e_callSi (n := 2) mMath_max [.int (nI x), .int 1] dX3_commonDivisor_36 ckX3_290 rfl (by decide +kernel) rfl rfl (Nat.le_of_ble_eq_true rfl) ⟨Nat.zero_le _, Nat.zero_le _⟩ (s_max mm (nI x) 1) (fun v36 m2 hm2 => ?_)
      obtain ⟨rfl, rfl⟩ := hm2
      rw [show (if nI x < 1 then (1 : Int32) else nI x) = nI (Nat.gcd a b) from by rw [if_neg (show ¬ nI x < 1 from fun z => absurd ((j_lt (a := x) (b := 1) (by omega) (by decide)).mp z) (by omega)), eG]]
      exact e_iret dX3_commonDivisor_39 rfl (⟨rfl, rfl⟩)
    · have y0 : ¬ y = 0 := fun z => c15 (by rw [z]; rfl)
      refine e_iload_n dX3_commonDivisor_18 rfl ?_
      refine e_iload_n dX3_commonDivisor_19 rfl ?_
      refine e_irem dX3_commonDivisor_20 c15 ?_
      rw [show (nI x) - (nI x) / (nI y) * (nI y) = nI (x % y) from pk_rem (by omega) (by omega) (by omega)]
      refine e_istore (L' := [some (.int (nI a)), some (.int (nI b)), some (.int (nI x)), some (.int (nI y)), some (.int (nI t)), some (.int (nI (x % y)))]) dX3_commonDivisor_21 (Nat.le_of_ble_eq_true rfl) (Nat.le_of_ble_eq_true rfl) (jnl_at (i := 4) rfl) rfl ?_
      refine e_iload_n dX3_commonDivisor_23 rfl ?_
      refine e_istore_n (L' := [some (.int (nI a)), some (.int (nI b)), some (.int (nI y)), some (.int (nI y)), some (.int (nI t)), some (.int (nI (x % y)))]) dX3_commonDivisor_24 (Nat.le_of_ble_eq_true rfl) (Nat.le_of_ble_eq_true rfl) (jnl_at (i := 1) rfl) rfl ?_
      refine e_iload dX3_commonDivisor_25 rfl ?_
      refine e_istore_n (L' := [some (.int (nI a)), some (.int (nI b)), some (.int (nI y)), some (.int (nI (x % y))), some (.int (nI t)), some (.int (nI (x % y)))]) dX3_commonDivisor_27 (Nat.le_of_ble_eq_true rfl) (Nat.le_of_ble_eq_true rfl) (jnl_at (i := 2) rfl) rfl ?_
      refine e_iinc (v := nI (t + 1)) (L' := [some (.int (nI a)), some (.int (nI b)), some (.int (nI y)), some (.int (nI (x % y))), some (.int (nI (t + 1))), some (.int (nI (x % y)))]) dX3_commonDivisor_28 rfl (j_inc rfl) (by decide) (jnl_at (i := 3) rfl) rfl ?_
      refine e_goto 7 dX3_commonDivisor_31 (by decide) ?_
      refine e_weak [some (.int (nI a)), some (.int (nI b)), some (.int (nI y)), some (.int (nI (x % y))), some (.int (nI (t + 1))), none] (by simp [jle]) ?_
      have hst := gcd_st (by omega) hI5 hI6
      refine ih (y, x % y) mm ⟨rfl, ?_, hy, Nat.le_trans (Nat.le_of_lt (Nat.mod_lt x (by omega))) hy, hst.1, hst.2⟩
      rw [← hI2]
      show Nat.gcd y (x % y) = Nat.gcd x y
      rw [Nat.gcd_comm y, ← Nat.gcd_rec, Nat.gcd_comm]

set_option maxHeartbeats 2000000 in
set_option maxRecDepth 20000 in
theorem s_Jcough_b (m : jM) (st : Nat → Int32) (V P : Nat) (hV : V ≤ 3) (hP : P ≤ 5) (hR : RK m 20 st V P) (x y z i n c w : Int32) (hb : ¬ (inN x P ∧ inN y V ∧ inN z 8 ∧ inN n 9 ∧ inN c 11 ∧ inN w 2)) : iX mX3_coughs [.ref 0, .int x, .int y, .int z, .int i, .int n, .int c, .int w] m (fun v m1 => v = -1000001 ∧ m = m1) := by
  refine jX_of (L := [some (.ref 0), some (.int x), some (.int y), some (.int z), some (.int i), some (.int n), some (.int c), some (.int w), none, none, none, none]) 4 rfl rfl (by decide +kernel) rfl ?_
  refine e_iload_n dX3_coughs_0 rfl ?_
  refine e_aload_n dX3_coughs_1 rfl ?_
  refine e_getR (o := 20) (b := 20) dX3_coughs_2 lkX3_25 rfl rfl (by decide) rfl ?_
  refine e_getI dX3_coughs_5 lkX3_140 rfl rfl ?_
  rw [show m 20 6 = nI P from hR.ps]
  refine e_callSi (n := 2) mX3_isNot [.int x, .int (nI P)] dX3_coughs_8 ckX3_80 rfl (by decide +kernel) rfl rfl (Nat.le_of_ble_eq_true rfl) ⟨Nat.zero_le _, Nat.zero_le _⟩ (s_notN m x (nI P) P rfl) (fun v8 m1 hm1 => ?_)
  rcases hm1 with ⟨rfl, ⟨rfl, q⟩ | ⟨rfl, q⟩⟩
  · refine e_if_ne 66 dX3_coughs_11 (by decide) (fun c11 => ?_) (fun h => absurd h (by decide))
    refine e_ldc dX3_coughs_66 kkX3_84 ?_
    exact e_iret dX3_coughs_68 rfl (⟨rfl, rfl⟩)
  · have q := Classical.not_not.mp q
    refine e_if_ne 66 dX3_coughs_11 (by decide) (fun h => absurd h (by decide)) (fun c11 => ?_)
    refine e_iload_n dX3_coughs_14 rfl ?_
    refine e_aload_n dX3_coughs_15 rfl ?_
    refine e_getR (o := 20) (b := 20) dX3_coughs_16 lkX3_25 rfl rfl (by decide) rfl ?_
    refine e_getI dX3_coughs_19 lkX3_147 rfl rfl ?_
    rw [show m 20 2 = nI V from hR.vs]
    refine e_callSi (n := 2) mX3_isNot [.int y, .int (nI V)] dX3_coughs_22 ckX3_80 rfl (by decide +kernel) rfl rfl (Nat.le_of_ble_eq_true rfl) ⟨Nat.zero_le _, Nat.zero_le _⟩ (s_notN m y (nI V) V rfl) (fun v22 m2 hm2 => ?_)
    rcases hm2 with ⟨rfl, ⟨rfl, q1⟩ | ⟨rfl, q1⟩⟩
    · refine e_if_ne 66 dX3_coughs_25 (by decide) (fun c25 => ?_) (fun h => absurd h (by decide))
      refine e_ldc dX3_coughs_66 kkX3_84 ?_
      exact e_iret dX3_coughs_68 rfl (⟨rfl, rfl⟩)
    · have q1 := Classical.not_not.mp q1
      refine e_if_ne 66 dX3_coughs_25 (by decide) (fun h => absurd h (by decide)) (fun c25 => ?_)
      refine e_iload_n dX3_coughs_28 rfl ?_
      refine e_bipush (v := 8) dX3_coughs_29 rfl ?_
      refine e_callSi (n := 2) mX3_isNot [.int z, .int 8] dX3_coughs_31 ckX3_80 rfl (by decide +kernel) rfl rfl (Nat.le_of_ble_eq_true rfl) ⟨Nat.zero_le _, Nat.zero_le _⟩ (s_notN m z 8 8 rfl) (fun v31 m3 hm3 => ?_)
      rcases hm3 with ⟨rfl, ⟨rfl, q2⟩ | ⟨rfl, q2⟩⟩
      · refine e_if_ne 66 dX3_coughs_34 (by decide) (fun c34 => ?_) (fun h => absurd h (by decide))
        refine e_ldc dX3_coughs_66 kkX3_84 ?_
        exact e_iret dX3_coughs_68 rfl (⟨rfl, rfl⟩)
      · have q2 := Classical.not_not.mp q2
        refine e_if_ne 66 dX3_coughs_34 (by decide) (fun h => absurd h (by decide)) (fun c34 => ?_)
        refine e_iload dX3_coughs_37 rfl ?_
        refine e_bipush (v := 9) dX3_coughs_39 rfl ?_
        refine e_callSi (n := 2) mX3_isNot [.int n, .int 9] dX3_coughs_41 ckX3_80 rfl (by decide +kernel) rfl rfl (Nat.le_of_ble_eq_true rfl) ⟨Nat.zero_le _, Nat.zero_le _⟩ (s_notN m n 9 9 rfl) (fun v41 m4 hm4 => ?_)
        rcases hm4 with ⟨rfl, ⟨rfl, q3⟩ | ⟨rfl, q3⟩⟩
        · refine e_if_ne 66 dX3_coughs_44 (by decide) (fun c44 => ?_) (fun h => absurd h (by decide))
          refine e_ldc dX3_coughs_66 kkX3_84 ?_
          exact e_iret dX3_coughs_68 rfl (⟨rfl, rfl⟩)
        · have q3 := Classical.not_not.mp q3
          refine e_if_ne 66 dX3_coughs_44 (by decide) (fun h => absurd h (by decide)) (fun c44 => ?_)
          refine e_iload dX3_coughs_47 rfl ?_
          refine e_bipush (v := 11) dX3_coughs_49 rfl ?_
          refine e_callSi (n := 2) mX3_isNot [.int c, .int 11] dX3_coughs_51 ckX3_80 rfl (by decide +kernel) rfl rfl (Nat.le_of_ble_eq_true rfl) ⟨Nat.zero_le _, Nat.zero_le _⟩ (s_notN m c 11 11 rfl) (fun v51 m5 hm5 => ?_)
          rcases hm5 with ⟨rfl, ⟨rfl, q4⟩ | ⟨rfl, q4⟩⟩
          · refine e_if_ne 66 dX3_coughs_54 (by decide) (fun c54 => ?_) (fun h => absurd h (by decide))
            refine e_ldc dX3_coughs_66 kkX3_84 ?_
            exact e_iret dX3_coughs_68 rfl (⟨rfl, rfl⟩)
          · have q4 := Classical.not_not.mp q4
            refine e_if_ne 66 dX3_coughs_54 (by decide) (fun h => absurd h (by decide)) (fun c54 => ?_)
            refine e_iload dX3_coughs_57 rfl ?_
            refine e_iconst (v := 2) dX3_coughs_59 rfl ?_
            refine e_callSi (n := 2) mX3_isNot [.int w, .int 2] dX3_coughs_60 ckX3_80 rfl (by decide +kernel) rfl rfl (Nat.le_of_ble_eq_true rfl) ⟨Nat.zero_le _, Nat.zero_le _⟩ (s_notN m w 2 2 rfl) (fun v60 m6 hm6 => ?_)
            rcases hm6 with ⟨rfl, ⟨rfl, q5⟩ | ⟨rfl, q5⟩⟩
            · refine e_if_eq 69 dX3_coughs_63 (by decide) (fun h => absurd h (by decide)) (fun c63 => ?_)
              refine e_ldc dX3_coughs_66 kkX3_84 ?_
              exact e_iret dX3_coughs_68 rfl (⟨rfl, rfl⟩)
            · have q5 := Classical.not_not.mp q5
              exact False.elim (hb ⟨q, q1, q2, q3, q4, q5⟩)

set_option maxHeartbeats 2000000 in
set_option maxRecDepth 20000 in
theorem s_Jcough_f (m : jM) (st : Nat → Int32) (V P : Nat) (hV : V ≤ 3) (hP : P ≤ 5) (hR : RK m 20 st V P) (p : Nat) (hp : p < P) (s : Nat) (hs : s < V) (r : Nat) (hr : r < 8) (n : Nat) (hn : n ≤ 8) (c : Nat) (hc : c ≤ 10) (w : Int32) (hw2 : inN w 2) (i : Int32) (hrw : RW m r) (htn : ¬ tuneOK m r i n) : iX mX3_coughs [.ref 0, .int (nI p), .int (nI s), .int (nI r), .int i, .int (nI n), .int (nI c), .int w] m (fun v m1 => v = lackV m r i n ∧ SQ m m1 ∧ m1 0 17 = lackX m r i n) := by
  refine jX_of (L := [some (.ref 0), some (.int (nI p)), some (.int (nI s)), some (.int (nI r)), some (.int i), some (.int (nI n)), some (.int (nI c)), some (.int w), none, none, none, none]) 4 rfl rfl (by decide +kernel) rfl ?_
  refine e_iload_n dX3_coughs_0 rfl ?_
  refine e_aload_n dX3_coughs_1 rfl ?_
  refine e_getR (o := 20) (b := 20) dX3_coughs_2 lkX3_25 rfl rfl (by decide) rfl ?_
  refine e_getI dX3_coughs_5 lkX3_140 rfl rfl ?_
  rw [show m 20 6 = nI P from hR.ps]
  refine e_callSi (n := 2) mX3_isNot [.int (nI p), .int (nI P)] dX3_coughs_8 ckX3_80 rfl (by decide +kernel) rfl rfl (Nat.le_of_ble_eq_true rfl) ⟨Nat.zero_le _, Nat.zero_le _⟩ (s_notN m (nI p) (nI P) P rfl) (fun v8 m1 hm1 => ?_)
  rcases hm1 with ⟨rfl, ⟨rfl, q5⟩ | ⟨rfl, q5⟩⟩
  · exact False.elim (q5 (inN_nI (by omega) hp))
  · have q5 := Classical.not_not.mp q5
    refine e_if_ne 66 dX3_coughs_11 (by decide) (fun h => absurd h (by decide)) (fun c11 => ?_)
    refine e_iload_n dX3_coughs_14 rfl ?_
    refine e_aload_n dX3_coughs_15 rfl ?_
    refine e_getR (o := 20) (b := 20) dX3_coughs_16 lkX3_25 rfl rfl (by decide) rfl ?_
    refine e_getI dX3_coughs_19 lkX3_147 rfl rfl ?_
    rw [show m 20 2 = nI V from hR.vs]
    refine e_callSi (n := 2) mX3_isNot [.int (nI s), .int (nI V)] dX3_coughs_22 ckX3_80 rfl (by decide +kernel) rfl rfl (Nat.le_of_ble_eq_true rfl) ⟨Nat.zero_le _, Nat.zero_le _⟩ (s_notN m (nI s) (nI V) V rfl) (fun v22 m2 hm2 => ?_)
    rcases hm2 with ⟨rfl, ⟨rfl, q6⟩ | ⟨rfl, q6⟩⟩
    · exact False.elim (q6 (inN_nI (by omega) hs))
    · have q6 := Classical.not_not.mp q6
      refine e_if_ne 66 dX3_coughs_25 (by decide) (fun h => absurd h (by decide)) (fun c25 => ?_)
      refine e_iload_n dX3_coughs_28 rfl ?_
      refine e_bipush (v := 8) dX3_coughs_29 rfl ?_
      refine e_callSi (n := 2) mX3_isNot [.int (nI r), .int 8] dX3_coughs_31 ckX3_80 rfl (by decide +kernel) rfl rfl (Nat.le_of_ble_eq_true rfl) ⟨Nat.zero_le _, Nat.zero_le _⟩ (s_notN m (nI r) 8 8 rfl) (fun v31 m3 hm3 => ?_)
      rcases hm3 with ⟨rfl, ⟨rfl, q1⟩ | ⟨rfl, q1⟩⟩
      · exact False.elim (q1 (inN_nI (by decide) hr))
      · have q1 := Classical.not_not.mp q1
        refine e_if_ne 66 dX3_coughs_34 (by decide) (fun h => absurd h (by decide)) (fun c34 => ?_)
        refine e_iload dX3_coughs_37 rfl ?_
        refine e_bipush (v := 9) dX3_coughs_39 rfl ?_
        refine e_callSi (n := 2) mX3_isNot [.int (nI n), .int 9] dX3_coughs_41 ckX3_80 rfl (by decide +kernel) rfl rfl (Nat.le_of_ble_eq_true rfl) ⟨Nat.zero_le _, Nat.zero_le _⟩ (s_notN m (nI n) 9 9 rfl) (fun v41 m4 hm4 => ?_)
        rcases hm4 with ⟨rfl, ⟨rfl, q2⟩ | ⟨rfl, q2⟩⟩
        · exact False.elim (q2 (inN_nI (by decide) (by omega)))
        · have q2 := Classical.not_not.mp q2
          refine e_if_ne 66 dX3_coughs_44 (by decide) (fun h => absurd h (by decide)) (fun c44 => ?_)
          refine e_iload dX3_coughs_47 rfl ?_
          refine e_bipush (v := 11) dX3_coughs_49 rfl ?_
          refine e_callSi (n := 2) mX3_isNot [.int (nI c), .int 11] dX3_coughs_51 ckX3_80 rfl (by decide +kernel) rfl rfl (Nat.le_of_ble_eq_true rfl) ⟨Nat.zero_le _, Nat.zero_le _⟩ (s_notN m (nI c) 11 11 rfl) (fun v51 m5 hm5 => ?_)
          rcases hm5 with ⟨rfl, ⟨rfl, q7⟩ | ⟨rfl, q7⟩⟩
          · exact False.elim (q7 (inN_nI (by decide) (by omega)))
          · have q7 := Classical.not_not.mp q7
            refine e_if_ne 66 dX3_coughs_54 (by decide) (fun h => absurd h (by decide)) (fun c54 => ?_)
            refine e_iload dX3_coughs_57 rfl ?_
            refine e_iconst (v := 2) dX3_coughs_59 rfl ?_
            refine e_callSi (n := 2) mX3_isNot [.int w, .int 2] dX3_coughs_60 ckX3_80 rfl (by decide +kernel) rfl rfl (Nat.le_of_ble_eq_true rfl) ⟨Nat.zero_le _, Nat.zero_le _⟩ (s_notN m w 2 2 rfl) (fun v60 m6 hm6 => ?_)
            rcases hm6 with ⟨rfl, ⟨rfl, q3⟩ | ⟨rfl, q3⟩⟩
            · exact False.elim (q3 (hw2))
            · have q3 := Classical.not_not.mp q3
              refine e_if_eq 69 dX3_coughs_63 (by decide) (fun c63 => ?_) (fun h => absurd h (by decide))
              refine e_aload_n dX3_coughs_69 rfl ?_
              refine e_aload_n dX3_coughs_70 rfl ?_
              refine e_getR (o := 1) (b := 1) dX3_coughs_71 lkX3_11 rfl rfl (by decide) rfl ?_
              refine e_iload_n dX3_coughs_74 rfl ?_
              refine e_aald (b := 2 + 2 * r) dX3_coughs_75 rfl (by decide) r rfl (by omega) (by decide) rfl ?_
              refine e_iload dX3_coughs_76 rfl ?_
              refine e_iload dX3_coughs_78 rfl ?_
              refine e_callVi (n := 3) mX3_takeTune [.ref (2 + 2 * r), .int i, .int (nI n)] dX3_coughs_80 ckX3_198 rfl (by decide +kernel) rfl rfl rfl rfl (Nat.le_of_ble_eq_true rfl) ⟨Nat.zero_le _, Nat.zero_le _⟩ (s_takeF m r hr n (by omega) i hrw htn) (fun v80 mt hmt => ?_)
              obtain ⟨rfl, hl⟩ := hmt
              refine e_istore (L' := [some (.ref 0), some (.int (nI p)), some (.int (nI s)), some (.int (nI r)), some (.int i), some (.int (nI n)), some (.int (nI c)), some (.int w), some (.int (lackV m r i n)), none, none, none]) dX3_coughs_83 (Nat.le_of_ble_eq_true rfl) (Nat.le_of_ble_eq_true rfl) (jnl_at (i := 7) rfl) rfl ?_
              refine e_iload dX3_coughs_85 rfl ?_
              refine e_if_eq 93 dX3_coughs_87 (by decide) (fun h => absurd h (lackV_ne0 m r i n)) (fun c87 => ?_)
              refine e_iload dX3_coughs_90 rfl ?_
              exact e_iret dX3_coughs_92 rfl (⟨rfl, hl⟩)

set_option maxHeartbeats 2000000 in
set_option maxRecDepth 20000 in
theorem s_Jcough (m : jM) (st : Nat → Int32) (V P : Nat) (hW : WK st V P) (hR : RK m 20 st V P) (h01 : m 20 0 = 1) (p : Nat) (hp : p < P) (s : Nat) (hs : s < V) (c : Nat) (hc : c ≤ 10) (w : Int32) (hw2 : inN w 2) (r : Nat) (hr : r < 8) (n : Nat) (hn : n ≤ 8) (i k : Nat) (h0 : m (2 + 2 * r) 0 = 1) (hk : k ≤ 40) (h2 : m (2 + 2 * r) 2 = nI k) (hik : i + n ≤ k) (hg : goodB (m (2 + 2 * r + 1)) i n = true) (tn : Nat → Int32) (htn : ∀ j, j < n → m (2 + 2 * r + 1) (i + j) = tn j) : iX mX3_coughs [.ref 0, .int (nI p), .int (nI s), .int (nI r), .int (nI i), .int (nI n), .int (nI c), .int w] m (fun v m1 => v = (if w = 0 then nI ((smN (cgF st tn s n V P p c) (2 ^ n)) / (Nat.gcd (smN (cgF st tn s n V P p c) (2 ^ n)) (10 ^ n))) else nI (10 ^ n / (Nat.gcd (smN (cgF st tn s n V P p c) (2 ^ n)) (10 ^ n)))) ∧ SQ m m1 ∧ m1 0 17 = 0) := by
  have hV := hW.v3
  have hP := hW.p5
  have hto : ∀ j, j < n → ∃ a, a < 8 ∧ tn j = nI a := fun j hj => by rw [← htn j hj]; exact goodB_ok hg j hj
  have h256 := two_le hn
  refine jX_of (L := [some (.ref 0), some (.int (nI p)), some (.int (nI s)), some (.int (nI r)), some (.int (nI i)), some (.int (nI n)), some (.int (nI c)), some (.int w), none, none, none, none]) 4 rfl rfl (by decide +kernel) rfl ?_
  refine e_iload_n dX3_coughs_0 rfl ?_
  refine e_aload_n dX3_coughs_1 rfl ?_
  refine e_getR (o := 20) (b := 20) dX3_coughs_2 lkX3_25 rfl rfl (by decide) rfl ?_
  refine e_getI dX3_coughs_5 lkX3_140 rfl rfl ?_
  rw [show m 20 6 = nI P from hR.ps]
  refine e_callSi (n := 2) mX3_isNot [.int (nI p), .int (nI P)] dX3_coughs_8 ckX3_80 rfl (by decide +kernel) rfl rfl (Nat.le_of_ble_eq_true rfl) ⟨Nat.zero_le _, Nat.zero_le _⟩ (s_notN m (nI p) (nI P) P rfl) (fun v8 m1 hm1 => ?_)
  rcases hm1 with ⟨rfl, ⟨rfl, q5⟩ | ⟨rfl, q5⟩⟩
  · exact False.elim (q5 (inN_nI (by omega) hp))
  · have q5 := Classical.not_not.mp q5
    refine e_if_ne 66 dX3_coughs_11 (by decide) (fun h => absurd h (by decide)) (fun c11 => ?_)
    refine e_iload_n dX3_coughs_14 rfl ?_
    refine e_aload_n dX3_coughs_15 rfl ?_
    refine e_getR (o := 20) (b := 20) dX3_coughs_16 lkX3_25 rfl rfl (by decide) rfl ?_
    refine e_getI dX3_coughs_19 lkX3_147 rfl rfl ?_
    rw [show m 20 2 = nI V from hR.vs]
    refine e_callSi (n := 2) mX3_isNot [.int (nI s), .int (nI V)] dX3_coughs_22 ckX3_80 rfl (by decide +kernel) rfl rfl (Nat.le_of_ble_eq_true rfl) ⟨Nat.zero_le _, Nat.zero_le _⟩ (s_notN m (nI s) (nI V) V rfl) (fun v22 m2 hm2 => ?_)
    rcases hm2 with ⟨rfl, ⟨rfl, q6⟩ | ⟨rfl, q6⟩⟩
    · exact False.elim (q6 (inN_nI (by omega) hs))
    · have q6 := Classical.not_not.mp q6
      refine e_if_ne 66 dX3_coughs_25 (by decide) (fun h => absurd h (by decide)) (fun c25 => ?_)
      refine e_iload_n dX3_coughs_28 rfl ?_
      refine e_bipush (v := 8) dX3_coughs_29 rfl ?_
      refine e_callSi (n := 2) mX3_isNot [.int (nI r), .int 8] dX3_coughs_31 ckX3_80 rfl (by decide +kernel) rfl rfl (Nat.le_of_ble_eq_true rfl) ⟨Nat.zero_le _, Nat.zero_le _⟩ (s_notN m (nI r) 8 8 rfl) (fun v31 m3 hm3 => ?_)
      rcases hm3 with ⟨rfl, ⟨rfl, q1⟩ | ⟨rfl, q1⟩⟩
      · exact False.elim (q1 (inN_nI (by decide) hr))
      · have q1 := Classical.not_not.mp q1
        refine e_if_ne 66 dX3_coughs_34 (by decide) (fun h => absurd h (by decide)) (fun c34 => ?_)
        refine e_iload dX3_coughs_37 rfl ?_
        refine e_bipush (v := 9) dX3_coughs_39 rfl ?_
        refine e_callSi (n := 2) mX3_isNot [.int (nI n), .int 9] dX3_coughs_41 ckX3_80 rfl (by decide +kernel) rfl rfl (Nat.le_of_ble_eq_true rfl) ⟨Nat.zero_le _, Nat.zero_le _⟩ (s_notN m (nI n) 9 9 rfl) (fun v41 m4 hm4 => ?_)
        rcases hm4 with ⟨rfl, ⟨rfl, q2⟩ | ⟨rfl, q2⟩⟩
        · exact False.elim (q2 (inN_nI (by decide) (by omega)))
        · have q2 := Classical.not_not.mp q2
          refine e_if_ne 66 dX3_coughs_44 (by decide) (fun h => absurd h (by decide)) (fun c44 => ?_)
          refine e_iload dX3_coughs_47 rfl ?_
          refine e_bipush (v := 11) dX3_coughs_49 rfl ?_
          refine e_callSi (n := 2) mX3_isNot [.int (nI c), .int 11] dX3_coughs_51 ckX3_80 rfl (by decide +kernel) rfl rfl (Nat.le_of_ble_eq_true rfl) ⟨Nat.zero_le _, Nat.zero_le _⟩ (s_notN m (nI c) 11 11 rfl) (fun v51 m5 hm5 => ?_)
          rcases hm5 with ⟨rfl, ⟨rfl, q7⟩ | ⟨rfl, q7⟩⟩
          · exact False.elim (q7 (inN_nI (by decide) (by omega)))
          · have q7 := Classical.not_not.mp q7
            refine e_if_ne 66 dX3_coughs_54 (by decide) (fun h => absurd h (by decide)) (fun c54 => ?_)
            refine e_iload dX3_coughs_57 rfl ?_
            refine e_iconst (v := 2) dX3_coughs_59 rfl ?_
            refine e_callSi (n := 2) mX3_isNot [.int w, .int 2] dX3_coughs_60 ckX3_80 rfl (by decide +kernel) rfl rfl (Nat.le_of_ble_eq_true rfl) ⟨Nat.zero_le _, Nat.zero_le _⟩ (s_notN m w 2 2 rfl) (fun v60 m6 hm6 => ?_)
            rcases hm6 with ⟨rfl, ⟨rfl, q3⟩ | ⟨rfl, q3⟩⟩
            · exact False.elim (q3 (hw2))
            · have q3 := Classical.not_not.mp q3
              refine e_if_eq 69 dX3_coughs_63 (by decide) (fun c63 => ?_) (fun h => absurd h (by decide))
              refine e_aload_n dX3_coughs_69 rfl ?_
              refine e_aload_n dX3_coughs_70 rfl ?_
              refine e_getR (o := 1) (b := 1) dX3_coughs_71 lkX3_11 rfl rfl (by decide) rfl ?_
              refine e_iload_n dX3_coughs_74 rfl ?_
              refine e_aald (b := 2 + 2 * r) dX3_coughs_75 rfl (by decide) r rfl (by omega) (by decide) rfl ?_
              refine e_iload dX3_coughs_76 rfl ?_
              refine e_iload dX3_coughs_78 rfl ?_
              refine e_callVi (n := 3) mX3_takeTune [.ref (2 + 2 * r), .int (nI i), .int (nI n)] dX3_coughs_80 ckX3_198 rfl (by decide +kernel) rfl rfl rfl rfl (Nat.le_of_ble_eq_true rfl) ⟨Nat.zero_le _, Nat.zero_le _⟩ (s_take m r hr n (by omega) i k h0 hk h2 hik) (fun v80 mt hmt => ?_)
              obtain ⟨ev, ⟨ft, eft⟩, e91⟩ := hmt
              rw [if_pos hg] at ev
              subst ev
              have h91 : ∀ j, j < n → mt 91 j = tn j := fun j hj => (e91 hg j hj).trans (htn j hj)
              have hq : SQ m mt := by rw [← eft]; exact SQ.p m ft
              refine e_istore (L' := [some (.ref 0), some (.int (nI p)), some (.int (nI s)), some (.int (nI r)), some (.int (nI i)), some (.int (nI n)), some (.int (nI c)), some (.int w), some (.int 0), none, none, none]) dX3_coughs_83 (Nat.le_of_ble_eq_true rfl) (Nat.le_of_ble_eq_true rfl) (jnl_at (i := 7) rfl) rfl ?_
              refine e_iload dX3_coughs_85 rfl ?_
              refine e_if_eq 93 dX3_coughs_87 (by decide) (fun c87 => ?_) (fun h => absurd h (by decide))
              refine e_iconst (v := 0) dX3_coughs_93 rfl ?_
              refine e_istore (L' := [some (.ref 0), some (.int (nI p)), some (.int (nI s)), some (.int (nI r)), some (.int (nI i)), some (.int (nI n)), some (.int (nI c)), some (.int w), some (.int 0), some (.int 0), none, none]) dX3_coughs_94 (Nat.le_of_ble_eq_true rfl) (Nat.le_of_ble_eq_true rfl) (jnl_at (i := 8) rfl) rfl ?_
              refine e_iconst (v := 0) dX3_coughs_96 rfl ?_
              refine e_istore (L' := [some (.ref 0), some (.int (nI p)), some (.int (nI s)), some (.int (nI r)), some (.int (nI i)), some (.int (nI n)), some (.int (nI c)), some (.int w), some (.int 0), some (.int 0), some (.int 0), none]) dX3_coughs_97 (Nat.le_of_ble_eq_true rfl) (Nat.le_of_ble_eq_true rfl) (jnl_at (i := 9) rfl) rfl ?_
              refine e_loopS (σ := Unit) 99 (2 ^ n) (fun u _ => [some (.ref 0), some (.int (nI p)), some (.int (nI s)), some (.int (nI r)), some (.int (nI i)), some (.int (nI n)), some (.int (nI c)), some (.int w), some (.int 0), some (.int (nI (smN (cgF st tn s n V P p c) u))), some (.int (nI u)), none]) (fun u _ mm => SQ m mm ∧ ∀ j, j < n → mm 91 j = tn j) 0 () (Nat.zero_le _) rfl (⟨hq, h91⟩) ?_ ?_
              · intro _ mm hI
                show jE _ _ 99 [some (.ref 0), some (.int (nI p)), some (.int (nI s)), some (.int (nI r)), some (.int (nI i)), some (.int (nI n)), some (.int (nI c)), some (.int w), some (.int 0), some (.int (nI (smN (cgF st tn s n V P p c) (2 ^ n)))), some (.int (nI (2 ^ n))), none] [] mm
                obtain ⟨hqm, h91⟩ := hI
                refine e_iload dX3_coughs_99 rfl ?_
                refine e_iconst (v := 1) dX3_coughs_101 rfl ?_
                refine e_iload dX3_coughs_102 rfl ?_
                refine e_ishl dX3_coughs_104 ?_
                rw [show 1 <<< ((nI n) &&& 31) = nI (2 ^ n) from j_shl1 hn]
                refine e_icmp_ge 172 dX3_coughs_105 (by decide) (fun c105 => ?_) (fun h => absurd (j_done rfl rfl) h)
                refine e_bipush (v := 10) dX3_coughs_172 rfl ?_
                refine e_iload dX3_coughs_174 rfl ?_
                refine e_callSi (n := 2) mX3_power [.int 10, .int (nI n)] dX3_coughs_176 ckX3_229 rfl (by decide +kernel) rfl rfl (Nat.le_of_ble_eq_true rfl) ⟨Nat.zero_le _, Nat.zero_le _⟩ (s_power mm 10 n (by omega)) (fun v176 m8 hm8 => ?_)
                obtain ⟨rfl, rfl⟩ := hm8
                refine e_istore (L' := [some (.ref 0), some (.int (nI p)), some (.int (nI s)), some (.int (nI r)), some (.int (nI i)), some (.int (nI n)), some (.int (nI c)), some (.int w), some (.int 0), some (.int (nI (smN (cgF st tn s n V P p c) (2 ^ n)))), some (.int (nI (10 ^ n))), none]) dX3_coughs_179 (Nat.le_of_ble_eq_true rfl) (Nat.le_of_ble_eq_true rfl) (jnl_at (i := 9) rfl) rfl ?_
                refine e_iload dX3_coughs_181 rfl ?_
                refine e_iload dX3_coughs_183 rfl ?_
                have hA := cg_le st tn s n V P p c (by omega) (by omega)
                have hT := ten_le hn
                have hT1 : 0 < 10 ^ n := ten_pos n
                refine e_callSi (n := 2) mX3_commonDivisor [.int (nI (smN (cgF st tn s n V P p c) (2 ^ n))), .int (nI (10 ^ n))] dX3_coughs_185 ckX3_233 rfl (by decide +kernel) rfl rfl (Nat.le_of_ble_eq_true rfl) ⟨Nat.zero_le _, Nat.zero_le _⟩ (s_gcd mm (smN (cgF st tn s n V P p c) (2 ^ n)) (10 ^ n) (by omega) hT1 hT) (fun v185 m9 hm9 => ?_)
                obtain ⟨rfl, rfl⟩ := hm9
                have hg0 : 0 < Nat.gcd (smN (cgF st tn s n V P p c) (2 ^ n)) (10 ^ n) := Nat.gcd_pos_of_pos_right _ hT1
                have hg1 : Nat.gcd (smN (cgF st tn s n V P p c) (2 ^ n)) (10 ^ n) ≤ 10 ^ n := Nat.gcd_le_right _ hT1
                refine e_istore (L' := [some (.ref 0), some (.int (nI p)), some (.int (nI s)), some (.int (nI r)), some (.int (nI i)), some (.int (nI n)), some (.int (nI c)), some (.int w), some (.int 0), some (.int (nI (smN (cgF st tn s n V P p c) (2 ^ n)))), some (.int (nI (10 ^ n))), some (.int (nI (Nat.gcd (smN (cgF st tn s n V P p c) (2 ^ n)) (10 ^ n))))]) dX3_coughs_188 (Nat.le_of_ble_eq_true rfl) (Nat.le_of_ble_eq_true rfl) (jnl_at (i := 10) rfl) rfl ?_
                refine e_aload_n dX3_coughs_190 rfl ?_
                refine e_iload dX3_coughs_191 rfl ?_
                refine e_if_ne 201 dX3_coughs_193 (by decide) (fun c193 => ?_) (fun c193 => ?_)
                · refine e_iload dX3_coughs_201 rfl ?_
                  refine e_iload dX3_coughs_203 rfl ?_
                  refine e_idiv dX3_coughs_205 (nI_ne0 hg0 (by omega)) ?_
                  rw [show (nI (10 ^ n)) / (nI (Nat.gcd (smN (cgF st tn s n V P p c) (2 ^ n)) (10 ^ n))) = nI ((10 ^ n) / (Nat.gcd (smN (cgF st tn s n V P p c) (2 ^ n)) (10 ^ n))) from pk_div (by omega) hg0 (by omega)]
                  refine e_callVi (n := 1) mX3_fine [.int (nI ((10 ^ n) / (Nat.gcd (smN (cgF st tn s n V P p c) (2 ^ n)) (10 ^ n))))] dX3_coughs_206 ckX3_93 rfl (by decide +kernel) rfl rfl rfl rfl (Nat.le_of_ble_eq_true rfl) ⟨Nat.zero_le _, Nat.zero_le _⟩ (s_fine mm (nI ((10 ^ n) / (Nat.gcd (smN (cgF st tn s n V P p c) (2 ^ n)) (10 ^ n))))) (fun v206 mw hmw => ?_)
                  obtain ⟨rfl, hw⟩ := hmw
                  exact e_iret dX3_coughs_209 rfl (⟨by first | rw [if_pos (by first | exact c193 | exact Classical.byContradiction c193)] | rw [if_neg c193], by rw [← hw]; exact hqm.tr (SQ.s _ 0), by rw [← hw, jup_s, upd_s]⟩)
                · refine e_iload dX3_coughs_196 rfl ?_
                  refine e_goto 203 dX3_coughs_198 (by decide) ?_
                  refine e_iload dX3_coughs_203 rfl ?_
                  refine e_idiv dX3_coughs_205 (nI_ne0 hg0 (by omega)) ?_
                  rw [show (nI (smN (cgF st tn s n V P p c) (2 ^ n))) / (nI (Nat.gcd (smN (cgF st tn s n V P p c) (2 ^ n)) (10 ^ n))) = nI ((smN (cgF st tn s n V P p c) (2 ^ n)) / (Nat.gcd (smN (cgF st tn s n V P p c) (2 ^ n)) (10 ^ n))) from pk_div (by omega) hg0 (by omega)]
                  refine e_callVi (n := 1) mX3_fine [.int (nI ((smN (cgF st tn s n V P p c) (2 ^ n)) / (Nat.gcd (smN (cgF st tn s n V P p c) (2 ^ n)) (10 ^ n))))] dX3_coughs_206 ckX3_93 rfl (by decide +kernel) rfl rfl rfl rfl (Nat.le_of_ble_eq_true rfl) ⟨Nat.zero_le _, Nat.zero_le _⟩ (s_fine mm (nI ((smN (cgF st tn s n V P p c) (2 ^ n)) / (Nat.gcd (smN (cgF st tn s n V P p c) (2 ^ n)) (10 ^ n))))) (fun v206 mw hmw => ?_)
                  obtain ⟨rfl, hw⟩ := hmw
                  exact e_iret dX3_coughs_209 rfl (⟨by first | rw [if_pos (by first | exact c193 | exact Classical.byContradiction c193)] | rw [if_neg c193], by rw [← hw]; exact hqm.tr (SQ.s _ 0), by rw [← hw, jup_s, upd_s]⟩)
              · intro u hk_ _ mm hI ih
                show jE _ _ 99 [some (.ref 0), some (.int (nI p)), some (.int (nI s)), some (.int (nI r)), some (.int (nI i)), some (.int (nI n)), some (.int (nI c)), some (.int w), some (.int 0), some (.int (nI (smN (cgF st tn s n V P p c) u))), some (.int (nI u)), none] [] mm
                obtain ⟨hqm, h91⟩ := hI
                have hun : u < 2 ^ n := hk_
                have hpr : prN c u n ≤ 10 ^ n := prN_le hc
                have hTn := ten_le hn
                refine e_iload dX3_coughs_99 rfl ?_
                refine e_iconst (v := 1) dX3_coughs_101 rfl ?_
                refine e_iload dX3_coughs_102 rfl ?_
                refine e_ishl dX3_coughs_104 ?_
                rw [show 1 <<< ((nI n) &&& 31) = nI (2 ^ n) from j_shl1 hn]
                refine e_icmp_ge 172 dX3_coughs_105 (by decide) (fun h => absurd h (j_more (N := 2 ^ n) rfl rfl (by omega) (by omega))) (fun c105 => ?_)
                refine e_iload dX3_coughs_108 rfl ?_
                refine e_iload dX3_coughs_110 rfl ?_
                refine e_iload dX3_coughs_112 rfl ?_
                refine e_callSi (n := 3) mX3_weightOf [.int (nI u), .int (nI n), .int (nI c)] dX3_coughs_114 ckX3_226 rfl (by decide +kernel) rfl rfl (Nat.le_of_ble_eq_true rfl) ⟨Nat.zero_le _, Nat.zero_le _⟩ (s_weight mm u n c hn hun hc) (fun v114 m12 hm12 => ?_)
                obtain ⟨rfl, rfl⟩ := hm12
                refine e_istore (L' := [some (.ref 0), some (.int (nI p)), some (.int (nI s)), some (.int (nI r)), some (.int (nI i)), some (.int (nI n)), some (.int (nI c)), some (.int w), some (.int 0), some (.int (nI (smN (cgF st tn s n V P p c) u))), some (.int (nI u)), some (.int (nI (prN c u n)))]) dX3_coughs_117 (Nat.le_of_ble_eq_true rfl) (Nat.le_of_ble_eq_true rfl) (jnl_at (i := 10) rfl) rfl ?_
                refine e_iload dX3_coughs_119 rfl ?_
                refine e_if_le 166 dX3_coughs_121 (by decide) (fun c121 => ?_) (fun c121 => ?_)
                · have pr0 : prN c u n = 0 := by have := (j_le (a := prN c u n) (b := 0) (by omega) (by decide)).mp c121; omega
                  refine e_iinc (v := nI (u + 1)) (L' := [some (.ref 0), some (.int (nI p)), some (.int (nI s)), some (.int (nI r)), some (.int (nI i)), some (.int (nI n)), some (.int (nI c)), some (.int w), some (.int 0), some (.int (nI (smN (cgF st tn s n V P p c) u))), some (.int (nI (u + 1))), some (.int (nI (prN c u n)))]) dX3_coughs_166 rfl (j_inc rfl) (by decide) (jnl_at (i := 9) rfl) rfl ?_
                  refine e_goto 99 dX3_coughs_169 (by decide) ?_
                  refine e_weak [some (.ref 0), some (.int (nI p)), some (.int (nI s)), some (.int (nI r)), some (.int (nI i)), some (.int (nI n)), some (.int (nI c)), some (.int w), some (.int 0), some (.int (nI (smN (cgF st tn s n V P p c) u))), some (.int (nI (u + 1))), none] (by simp [jle]) ?_
                  have eF : cgF st tn s n V P p c u = 0 := by unfold cgF; split; exact pr0; rfl
                  have eS : smN (cgF st tn s n V P p c) (u + 1) = smN (cgF st tn s n V P p c) u := by show smN (cgF st tn s n V P p c) u + cgF st tn s n V P p c u = _; rw [eF]; rfl
                  refine e_start (by simp only [eS]) rfl (ih () mm ⟨hqm, h91⟩)
                · refine e_aload_n dX3_coughs_124 rfl ?_
                  refine e_getR (o := 31) (b := 31) dX3_coughs_125 lkX3_29 rfl rfl (by decide) rfl ?_
                  refine e_aload_n dX3_coughs_128 rfl ?_
                  refine e_getR (o := 20) (b := 20) dX3_coughs_129 lkX3_25 rfl rfl (by decide) rfl ?_
                  refine e_callVv (n := 1) mX0_takeFrom [.ref 20] dX3_coughs_132 ckX3_137 rfl (by decide +kernel) rfl rfl rfl rfl (Nat.le_of_ble_eq_true rfl) ⟨Nat.zero_le _, Nat.zero_le _⟩ (s_trial _ mm hqm st V P hW hR (Or.inr h01)) (fun mu hmu => ?_)
                  obtain ⟨hRu, hqu, eu⟩ := hmu
                  refine e_aload_n dX3_coughs_135 rfl ?_
                  refine e_iload_n dX3_coughs_136 rfl ?_
                  refine e_iload dX3_coughs_137 rfl ?_
                  refine e_iload dX3_coughs_139 rfl ?_
                  refine e_callVv (n := 3) mX3_trySolo [.int (nI s), .int (nI n), .int (nI u)] dX3_coughs_141 ckX3_202 rfl (by decide +kernel) rfl rfl rfl rfl (Nat.le_of_ble_eq_true rfl) ⟨Nat.zero_le _, Nat.zero_le _⟩ (s_solo _ mu hqu (st) V P hW hRu s hs n (by omega) tn (fun j hj => by rw [eu]; exact h91 j hj) hto u (by omega)) (fun mv hmv => ?_)
                  obtain ⟨hRv, hqv, e91v⟩ := hmv
                  refine e_iload dX3_coughs_144 rfl ?_
                  refine e_aload_n dX3_coughs_146 rfl ?_
                  refine e_getR (o := 31) (b := 31) dX3_coughs_147 lkX3_29 rfl rfl (by decide) rfl ?_
                  refine e_iload_n dX3_coughs_150 rfl ?_
                  refine e_callVi (n := 1) mX0_isSet [.int (nI p)] dX3_coughs_151 ckX3_179 rfl (by decide +kernel) rfl rfl rfl rfl (Nat.le_of_ble_eq_true rfl) ⟨Nat.zero_le _, Nat.zero_le _⟩ (s_Cset 31 k31 mv _ V P hP hRv p hp) (fun v151 m15 hm15 => ?_)
                  rcases hm15 with ⟨rfl, ⟨rfl, q⟩ | ⟨rfl, q⟩⟩
                  · refine e_if_eq 162 dX3_coughs_154 (by decide) (fun h => absurd h (by decide)) (fun c154 => ?_)
                    refine e_iload dX3_coughs_157 rfl ?_
                    refine e_goto 163 dX3_coughs_159 (by decide) ?_
                    refine e_iadd dX3_coughs_163 ?_
                    rw [show (nI (smN (cgF st tn s n V P p c) u)) + (nI (prN c u n)) = nI ((smN (cgF st tn s n V P p c) u) + (prN c u n)) from (j_add rfl rfl)]
                    refine e_istore (L' := [some (.ref 0), some (.int (nI p)), some (.int (nI s)), some (.int (nI r)), some (.int (nI i)), some (.int (nI n)), some (.int (nI c)), some (.int w), some (.int 0), some (.int (nI ((smN (cgF st tn s n V P p c) u) + (prN c u n)))), some (.int (nI u)), some (.int (nI (prN c u n)))]) dX3_coughs_164 (Nat.le_of_ble_eq_true rfl) (Nat.le_of_ble_eq_true rfl) (jnl_at (i := 8) rfl) rfl ?_
                    refine e_iinc (v := nI (u + 1)) (L' := [some (.ref 0), some (.int (nI p)), some (.int (nI s)), some (.int (nI r)), some (.int (nI i)), some (.int (nI n)), some (.int (nI c)), some (.int w), some (.int 0), some (.int (nI ((smN (cgF st tn s n V P p c) u) + (prN c u n)))), some (.int (nI (u + 1))), some (.int (nI (prN c u n)))]) dX3_coughs_166 rfl (j_inc rfl) (by decide) (jnl_at (i := 9) rfl) rfl ?_
                    refine e_goto 99 dX3_coughs_169 (by decide) ?_
                    refine e_weak [some (.ref 0), some (.int (nI p)), some (.int (nI s)), some (.int (nI r)), some (.int (nI i)), some (.int (nI n)), some (.int (nI c)), some (.int w), some (.int 0), some (.int (nI ((smN (cgF st tn s n V P p c) u) + (prN c u n)))), some (.int (nI (u + 1))), none] (by simp [jle]) ?_
                    have eF : cgF st tn s n V P p c u = prN c u n := if_pos (decide_eq_true (((hW.alone hto n (Nat.le_refl n)).set41 hp).mpr q))
                    have eS : smN (cgF st tn s n V P p c) (u + 1) = smN (cgF st tn s n V P p c) u + prN c u n := by rw [← eF]; rfl
                    refine e_start (by simp only [eS]) rfl (ih () mv ⟨hqv, fun j hj => by rw [e91v, eu]; exact h91 j hj⟩)
                  · refine e_if_eq 162 dX3_coughs_154 (by decide) (fun c154 => ?_) (fun h => absurd h (by decide))
                    refine e_iconst (v := 0) dX3_coughs_162 rfl ?_
                    refine e_iadd dX3_coughs_163 ?_
                    rw [show (nI (smN (cgF st tn s n V P p c) u)) + 0 = nI ((smN (cgF st tn s n V P p c) u) + 0) from (j_add rfl rfl)]
                    refine e_istore (L' := [some (.ref 0), some (.int (nI p)), some (.int (nI s)), some (.int (nI r)), some (.int (nI i)), some (.int (nI n)), some (.int (nI c)), some (.int w), some (.int 0), some (.int (nI ((smN (cgF st tn s n V P p c) u) + 0))), some (.int (nI u)), some (.int (nI (prN c u n)))]) dX3_coughs_164 (Nat.le_of_ble_eq_true rfl) (Nat.le_of_ble_eq_true rfl) (jnl_at (i := 8) rfl) rfl ?_
                    refine e_iinc (v := nI (u + 1)) (L' := [some (.ref 0), some (.int (nI p)), some (.int (nI s)), some (.int (nI r)), some (.int (nI i)), some (.int (nI n)), some (.int (nI c)), some (.int w), some (.int 0), some (.int (nI ((smN (cgF st tn s n V P p c) u) + 0))), some (.int (nI (u + 1))), some (.int (nI (prN c u n)))]) dX3_coughs_166 rfl (j_inc rfl) (by decide) (jnl_at (i := 9) rfl) rfl ?_
                    refine e_goto 99 dX3_coughs_169 (by decide) ?_
                    refine e_weak [some (.ref 0), some (.int (nI p)), some (.int (nI s)), some (.int (nI r)), some (.int (nI i)), some (.int (nI n)), some (.int (nI c)), some (.int w), some (.int 0), some (.int (nI ((smN (cgF st tn s n V P p c) u) + 0))), some (.int (nI (u + 1))), none] (by simp [jle]) ?_
                    have eF : cgF st tn s n V P p c u = 0 := if_neg (fun w => q (((hW.alone hto n (Nat.le_refl n)).set41 hp).mp (of_decide_eq_true w)))
                    have eS : smN (cgF st tn s n V P p c) (u + 1) = smN (cgF st tn s n V P p c) u + 0 := by rw [← eF]; rfl
                    refine e_start (by simp only [eS]) rfl (ih () mv ⟨hqv, fun j hj => by rw [e91v, eu]; exact h91 j hj⟩)
