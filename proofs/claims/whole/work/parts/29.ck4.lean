/-! ===== the class's kitchens: what a pan hears ===== -/
/-- the notes that a pan hears, as bits -/
def ntsB (st nt : Nat → Int32) (p : Nat) : Nat → Int32
  | 0 => 0
  | s + 1 => if ¬ nt s = 7 ∧ (st (31 + p) >>> (nI s &&& 31)) &&& 1 = 1 then ntsB st nt p s ||| ((1 : Int32) <<< (nt s &&& 31)) else ntsB st nt p s
def lsN (b : Nat) : Int32 := if b = 0 then -1000000 else nI (ntz 12 b)
theorem or_andI (a b c : Int32) : (a ||| b) &&& c = (a &&& c) ||| (b &&& c) := by
  apply Int32.toBitVec_inj.mp
  simp only [Int32.toBitVec_and, Int32.toBitVec_or]
  ext i hi
  simp [Bool.and_or_distrib_right]
theorem co2 {P : Nat → Nat → Prop} {a b : Nat} (hb : 0 < b) (h : ∀ q, q < a * b → P (q / b) (q % b)) {x y : Nat} (hx : x < a) (hy : y < b) : P x y := by
  have e := h (x * b + y) (by have := Nat.mul_le_mul_right b (show x + 1 ≤ a from hx); rw [Nat.add_mul] at this; omega)
  rwa [show (x * b + y) / b = x by rw [Nat.mul_comm, Nat.mul_add_div hb, Nat.div_eq_of_lt hy, Nat.add_zero], show (x * b + y) % b = y by rw [Nat.mul_comm, Nat.mul_add_mod, Nat.mod_eq_of_lt hy]] at e
theorem nt_bit : ∀ b j, b < 128 → j < 7 → (b ||| 2 ^ j < 128 ∧ nI b ||| ((1 : Int32) <<< (nI j &&& 31)) = nI (b ||| 2 ^ j) ∧ (if lsN b < 0 ∨ nI j < lsN b then nI j else lsN b) = lsN (b ||| 2 ^ j)) := fun b j hb hj =>
  co2 (P := fun b j => b ||| 2 ^ j < 128 ∧ nI b ||| ((1 : Int32) <<< (nI j &&& 31)) = nI (b ||| 2 ^ j) ∧ (if lsN b < 0 ∨ nI j < lsN b then nI j else lsN b) = lsN (b ||| 2 ^ j)) (a := 128) (b := 7) (by decide) (fun q hq => co_dec (P := fun q => (q / 7) ||| 2 ^ (q % 7) < 128 ∧ nI (q / 7) ||| ((1 : Int32) <<< (nI (q % 7) &&& 31)) = nI ((q / 7) ||| 2 ^ (q % 7)) ∧ (if lsN (q / 7) < 0 ∨ nI (q % 7) < lsN (q / 7) then nI (q % 7) else lsN (q / 7)) = lsN ((q / 7) ||| 2 ^ (q % 7))) (by decide +kernel) hq) hb hj
theorem nt_mode : ∀ k j, k < 128 → j < 7 → (((1 : Int32) <<< (nI j &&& 31)) &&& (nI k ^^^ -1) = 0 ↔ btI (nI k) (nI j) = true) := fun k j hk hj =>
  co2 (P := fun k j => ((1 : Int32) <<< (nI j &&& 31)) &&& (nI k ^^^ -1) = 0 ↔ btI (nI k) (nI j) = true) (a := 128) (b := 7) (by decide) (fun q hq => co_dec (P := fun q => ((1 : Int32) <<< (nI (q % 7) &&& 31)) &&& (nI (q / 7) ^^^ -1) = 0 ↔ btI (nI (q / 7)) (nI (q % 7)) = true) (by decide +kernel) hq) hk hj
/-- the three accounts of what is heard agree -/
theorem nts_ok {st nt : Nat → Int32} {p k : Nat} (hk : k < 128) (hm : st (21 + p) = nI k) : ∀ s, (∀ j, j < s → ∃ a, a < 8 ∧ nt j = nI a) → ∃ b, b < 128 ∧ ntsB st nt p s = nI b ∧ lsB st nt p s = lsN b ∧ (rtB st nt p s = true ↔ nI b &&& (st (21 + p) ^^^ -1) = 0)
  | 0, _ => ⟨0, by decide, rfl, rfl, by rw [hm]; exact ⟨fun _ => co_dec (P := fun k => nI 0 &&& (nI k ^^^ -1) = 0) (by decide +kernel) hk, fun _ => rfl⟩⟩
  | s + 1, h => by
    obtain ⟨b, hb, e1, e2, e3⟩ := nts_ok hk hm s (fun j hj => h j (by omega))
    obtain ⟨a, ha, ea⟩ := h s (by omega)
    by_cases c : ¬ nt s = 7 ∧ (st (31 + p) >>> (nI s &&& 31)) &&& 1 = 1
    · have ha7 : a < 7 := by
        rcases Nat.lt_or_ge a 7 with q | q
        · exact q
        · obtain rfl : a = 7 := by omega
          exact absurd ea c.1
      have c2 : btI (st (31 + p)) (nI s) = true ∧ nt s < 7 := ⟨btI_t c.2, by rw [ea]; exact (j_lt (by omega) (by decide) (b := 7)).mpr ha7⟩
      obtain ⟨f1, f2, f3⟩ := nt_bit b a hb ha7
      refine ⟨b ||| 2 ^ a, f1, ?_, ?_, ?_⟩
      · rw [show ntsB st nt p (s + 1) = ntsB st nt p s ||| ((1 : Int32) <<< (nt s &&& 31)) from if_pos c, e1, ea, f2]
      · rw [show lsB st nt p (s + 1) = (if lsB st nt p s < 0 ∨ nt s < lsB st nt p s then nt s else lsB st nt p s) from if_pos c2, e2, ea, f3]
      · rw [show rtB st nt p (s + 1) = (rtB st nt p s && btI (st (21 + p)) (nt s)) from if_pos c2, Bool.and_eq_true, e3, ea, hm, ← f2, or_andI, Int32.or_eq_zero_iff, nt_mode k a hk ha7]
    · have c2 : ¬ (btI (st (31 + p)) (nI s) = true ∧ nt s < 7) := fun z => c ⟨fun w => by rw [w] at z; exact absurd z.2 (by decide), of_decide_eq_true z.1⟩
      refine ⟨b, hb, ?_, ?_, ?_⟩
      · rw [show ntsB st nt p (s + 1) = ntsB st nt p s from if_neg c]; exact e1
      · rw [show lsB st nt p (s + 1) = lsB st nt p s from if_neg c2]; exact e2
      · rw [show rtB st nt p (s + 1) = rtB st nt p s from if_neg c2]; exact e3
theorem ls_ran : ∀ b, b < 128 → b ≠ 0 → ∃ a, a < 7 ∧ lsN b = nI a := fun b hb h0 => ⟨ntz 12 b, co_dec (P := fun b => b ≠ 0 → ntz 12 b < 7) (by decide +kernel) hb h0, if_neg h0⟩
theorem leap1 : ∀ a c, a < 7 → c < 7 → ((if 0 ≤ nI a - nI c then nI a - nI c else -(nI a - nI c)) = 2 ↔ (decide (nI a = nI c + 2) || decide (nI a = nI c - 2)) = true) := fun a c ha hc =>
  co2 (P := fun a c => (if 0 ≤ nI a - nI c then nI a - nI c else -(nI a - nI c)) = 2 ↔ (decide (nI a = nI c + 2) || decide (nI a = nI c - 2)) = true) (a := 7) (b := 7) (by decide) (fun q hq => co_dec (P := fun q => (if 0 ≤ nI (q / 7) - nI (q % 7) then nI (q / 7) - nI (q % 7) else -(nI (q / 7) - nI (q % 7))) = 2 ↔ (decide (nI (q / 7) = nI (q % 7) + 2) || decide (nI (q / 7) = nI (q % 7) - 2)) = true) (by decide +kernel) hq) ha hc
theorem leap0 : ∀ a, a < 7 → ¬ (if 0 ≤ nI a - (-1000000) then nI a - (-1000000) else -(nI a - (-1000000))) = 2 := fun a ha => co_dec (P := fun a => ¬ (if 0 ≤ nI a - (-1000000) then nI a - (-1000000) else -(nI a - (-1000000))) = 2) (by decide +kernel) ha
theorem less1 : ∀ a c, a < 21 → c < 10 → (nI a - nI c < 0 ↔ nI a < nI c) := fun a c ha hc =>
  co2 (P := fun a c => nI a - nI c < 0 ↔ nI a < nI c) (a := 21) (b := 10) (by decide) (fun q hq => co_dec (P := fun q => nI (q / 10) - nI (q % 10) < 0 ↔ nI (q / 10) < nI (q % 10)) (by decide +kernel) hq) ha hc
theorem j_ran {x : Int32} {n : Nat} (hn : n < 2 ^ 31) (h : 0 ≤ x ∧ x ≤ nI n) : ∃ a, a < n + 1 ∧ x = nI a := by
  obtain ⟨k, hk, rfl⟩ := nI_of (Int32.not_lt.mpr h.1)
  exact ⟨k, by have := (j_le hk hn).mp h.2; omega, rfl⟩
theorem leap_ok {l ahead : Int32} {a : Nat} (ha : a < 7) (hl : l = nI a) (hh : ahead = -1000000 ∨ (0 ≤ ahead ∧ ahead < 7)) : (if 0 ≤ l - ahead then l - ahead else -(l - ahead)) = 2 ↔ (decide (0 ≤ ahead) && (decide (l = ahead + 2) || decide (l = ahead - 2))) = true := by
  subst hl
  rcases hh with rfl | ⟨h0, h7⟩
  · exact ⟨fun z => absurd z (leap0 a ha), fun z => by simp at z⟩
  · obtain ⟨c, hc, rfl⟩ := j_small (n := 7) (Int32.not_lt.mpr h0) (by decide) h7
    rw [leap1 a c ha hc, decide_eq_true h0, Bool.true_and]
/-- how thick it is after what it heard: the same by both accounts -/
theorem thk_ok {k less thick ahead mode : Int32} {b : Nat} {r : Bool} (hb : b < 128) (hr : r = true ↔ nI b &&& (mode ^^^ -1) = 0) (hh : ahead = -1000000 ∨ (0 ≤ ahead ∧ ahead < 7)) (ht : 0 ≤ thick ∧ thick ≤ 20) (hl : 1 ≤ less ∧ less ≤ 9) : tkW' k less thick (jdW k mode ahead (nI b) (lsN b)) = thkB k less thick (lsN b) (rqB k ahead (lsN b) r) := by
  by_cases h0 : b = 0
  · subst h0
    have e1 : jdW k mode ahead (nI 0) (lsN 0) = 0 := if_pos rfl
    rw [e1]
    unfold tkW' thkB
    by_cases k4 : k = 4
    · subst k4; rfl
    by_cases k5 : k = 5
    · subst k5; rfl
    rw [if_neg k4, if_neg k5, if_neg (by decide), if_neg (by decide), if_neg k5, if_neg (fun z => absurd z.2 (by decide))]
  · obtain ⟨a, ha, ea⟩ := ls_ran b hb h0
    have hN : ¬ nI b = 0 := fun z => h0 ((j_eq (by omega) (by decide) (b := 0)).mp z)
    have hle : ¬ lsN b < 0 := by rw [ea]; exact Int32.not_lt.mpr ((j_le (by decide) (by omega) (a := 0)).mpr (Nat.zero_le _))
    have hge : 0 ≤ lsN b := Int32.not_lt.mp hle
    have hrq : jdW k mode ahead (nI b) (lsN b) = if rqB k ahead (lsN b) r = true then 1 else 2 := by
      unfold jdW rqB
      rw [if_neg hN]
      by_cases hr1 : r = true
      · rw [if_neg (fun z => z (hr.mp hr1)), hr1, Bool.true_and]
        by_cases k3 : k = 3
        · rw [if_pos k3]
          by_cases q : (if 0 ≤ lsN b - ahead then lsN b - ahead else -(lsN b - ahead)) = 2
          · rw [if_pos (Or.inr q), if_pos ((leap_ok ha ea hh).mp q)]
          · rw [if_neg (fun z => z.elim (fun w => w k3) q), if_neg (fun z => q ((leap_ok ha ea hh).mpr z))]
        · rw [if_neg k3, if_pos (Or.inl k3), if_pos rfl]
      · rw [if_pos (fun z => hr1 (hr.mpr z)), Bool.eq_false_iff.mpr hr1, Bool.false_and, ite_self, if_neg (by decide)]
    have hJ0 : ¬ jdW k mode ahead (nI b) (lsN b) = 0 := by
      rw [hrq]
      split <;> decide
    unfold tkW' thkB
    by_cases k4 : k = 4
    · subst k4
      rw [if_pos rfl, if_neg (by decide), if_neg (fun z => z.1 rfl)]
    rw [if_neg k4]
    by_cases k5 : k = 5
    · subst k5
      rw [if_pos rfl, if_pos rfl, if_neg hJ0, if_neg hle]
    rw [hrq, if_neg k5, if_neg k5, if_pos (show ¬ k = 4 ∧ 0 ≤ lsN b from ⟨k4, hge⟩)]
    by_cases rq : rqB k ahead (lsN b) r = true
    · rw [if_pos rq, if_neg (by decide), if_pos rfl, if_pos rq]
    · rw [if_neg rq, if_pos rfl, if_neg rq]
      obtain ⟨x, hx, rfl⟩ := j_ran (n := 20) (by decide) ht
      obtain ⟨y, hy, rfl⟩ := j_ran (n := 9) (by decide) ⟨Int32.le_trans (by decide) hl.1, hl.2⟩
      by_cases k2 : k = 2
      · rw [if_pos k2, if_pos (Or.inl k2)]
      · rw [if_neg k2]
        by_cases lt : nI x < nI y
        · rw [if_pos ((less1 x y hx hy).mpr lt), if_pos (Or.inr lt)]
        · rw [if_neg (fun z => lt ((less1 x y hx hy).mp z)), if_neg (fun z => z.elim k2 lt)]
set_option maxHeartbeats 2000000 in
set_option maxRecDepth 20000 in
theorem s_Chear (kc : Nat) (hk : isK kc) (m : jM) (st : Nat → Int32) (V P : Nat) (hW : WK st V P) (hR : RK m kc st V P) (hn : ∀ s, s < V → ∃ a, a < 8 ∧ m 90 s = nI a) (p : Nat) (hp : p < P) : vX mX0_hear [.ref kc, .int (nI p), .ref 90] m (fun m1 => RK m1 kc (hearB st (m 90) V p) V P ∧ KF kc m m1) := by
  have hV := hW.v3
  have hP := hW.p5
  obtain ⟨km, hkm, hmk⟩ := j_ran (n := 127) (by decide) (hW.md p hp)
  refine jX_of (L := [some (.ref kc), some (.int (nI p)), some (.ref 90), none, none]) 2 rfl rfl (by decide +kernel) rfl ?_
  refine e_iconst (v := 0) dX0_hear_0 rfl ?_
  refine e_istore_n (L' := [some (.ref kc), some (.int (nI p)), some (.ref 90), some (.int 0), none]) dX0_hear_1 (Nat.le_of_ble_eq_true rfl) (Nat.le_of_ble_eq_true rfl) (jnl_at (i := 2) rfl) rfl ?_
  refine e_iconst (v := 0) dX0_hear_2 rfl ?_
  refine e_istore (L' := [some (.ref kc), some (.int (nI p)), some (.ref 90), some (.int 0), some (.int 0)]) dX0_hear_3 (Nat.le_of_ble_eq_true rfl) (Nat.le_of_ble_eq_true rfl) (jnl_at (i := 3) rfl) rfl ?_
  refine e_loop 5 V (fun k => [some (.ref kc), some (.int (nI p)), some (.ref 90), some (.int (ntsB st (m 90) p k)), some (.int (nI k))]) (fun k => m) 0 (Nat.zero_le _) rfl (rfl) ?_ ?_
  · show jE _ _ 5 [some (.ref kc), some (.int (nI p)), some (.ref 90), some (.int (ntsB st (m 90) p V)), some (.int (nI V))] [] m
    refine e_iload dX0_hear_5 rfl ?_
    refine e_aload_n dX0_hear_7 rfl ?_
    refine e_getI dX0_hear_8 lkX0_19 (isK.l0 hk) rfl ?_
    rw [show m kc 2 = nI V from hR.vs]
    refine e_icmp_ge 53 dX0_hear_11 (by decide) (fun c11 => ?_) (fun h => absurd (j_done rfl rfl) h)
    obtain ⟨b, hb, e1, e2, e3⟩ := nts_ok (st := st) (nt := m 90) (p := p) hkm hmk V hn
    have hT := thk_ok (k := st (16 + p)) (less := st 0) (thick := st (36 + p)) (ahead := st (46 + p)) (mode := st (21 + p)) (r := rtB st (m 90) p V) hb e3 (hW.hd p hp) (hW.tk p hp) hW.bk
    rw [← e1, ← e2] at hT
    refine e_iload_n dX0_hear_53 rfl ?_
    refine e_if_ne 62 dX0_hear_54 (by decide) (fun c54 => ?_) (fun c54 => ?_)
    · refine e_iload_n dX0_hear_62 rfl ?_
      have b0 : b ≠ 0 := fun z => c54 (by rw [e1, z]; rfl)
      refine e_callSi (n := 1) mInt_numberOfTrailingZeros [.int (ntsB st (m 90) p V)] dX0_hear_63 ckX0_88 rfl (by decide +kernel) rfl rfl (Nat.le_of_ble_eq_true rfl) ⟨Nat.zero_le _, Nat.zero_le _⟩ (s_ntzX m (ntsB st (m 90) p V) (by rw [e1]; exact ntI_k b (by omega) b0)) (fun v63 m1 hm1 => ?_)
      obtain ⟨rfl, rfl⟩ := hm1
      rw [show ntX (ntsB st (m 90) p V) = lsB st (m 90) p V from by rw [e1, ntX_k b (by omega) b0, e2, lsN, if_neg b0]]
      refine e_istore (L' := [some (.ref kc), some (.int (nI p)), some (.ref 90), some (.int (ntsB st (m 90) p V)), some (.int (lsB st (m 90) p V))]) dX0_hear_66 (Nat.le_of_ble_eq_true rfl) (Nat.le_of_ble_eq_true rfl) (jnl_at (i := 3) rfl) rfl ?_
      refine e_aload_n dX0_hear_68 rfl ?_
      refine e_getR (o := 9) (b := kc + 9) dX0_hear_69 lkX0_53 (isK.l0 hk) rfl (by decide) rfl ?_
      refine e_iload_n dX0_hear_72 rfl ?_
      refine e_aload_n dX0_hear_73 rfl ?_
      refine e_iload_n dX0_hear_74 rfl ?_
      refine e_aload_n dX0_hear_75 rfl ?_
      refine e_iload_n dX0_hear_76 rfl ?_
      refine e_iload_n dX0_hear_77 rfl ?_
      refine e_iload dX0_hear_78 rfl ?_
      refine e_callVi (n := 3) mX0_judge [.int (nI p), .int (ntsB st (m 90) p V), .int (lsB st (m 90) p V)] dX0_hear_80 ckX0_94 rfl (by decide +kernel) rfl (isK.l0 hk) rfl rfl (Nat.le_of_ble_eq_true rfl) ⟨Nat.zero_le _, Nat.zero_le _⟩ (s_Cjudge kc hk m st V P hR p hP hp (ntsB st (m 90) p V) (lsB st (m 90) p V)) (fun v80 m2 hm2 => ?_)
      obtain ⟨rfl, rfl⟩ := hm2
      refine e_callVi (n := 2) mX0_thickBy [.int (nI p), .int (jdW (st (16 + p)) (st (21 + p)) (st (46 + p)) (ntsB st (m 90) p V) (lsB st (m 90) p V))] dX0_hear_83 ckX0_98 rfl (by decide +kernel) rfl (isK.l0 hk) rfl rfl (Nat.le_of_ble_eq_true rfl) ⟨Nat.zero_le _, Nat.zero_le _⟩ (s_CthickBy kc hk m st V P hR p hP hp (jdW (st (16 + p)) (st (21 + p)) (st (46 + p)) (ntsB st (m 90) p V) (lsB st (m 90) p V))) (fun v83 m3 hm3 => ?_)
      obtain ⟨rfl, rfl⟩ := hm3
      rw [show tkW' (st (16 + p)) (st 0) (st (36 + p)) (jdW (st (16 + p)) (st (21 + p)) (st (46 + p)) (ntsB st (m 90) p V) (lsB st (m 90) p V)) = thkB (st (16 + p)) (st 0) (st (36 + p)) (lsB st (m 90) p V) (rqB (st (16 + p)) (st (46 + p)) (lsB st (m 90) p V) (rtB st (m 90) p V)) from hT]
      obtain ⟨TT, hTT⟩ : ∃ y : Int32, y = thkB (st (16 + p)) (st 0) (st (36 + p)) (lsB st (m 90) p V) (rqB (st (16 + p)) (st (46 + p)) (lsB st (m 90) p V) (rtB st (m 90) p V)) := ⟨_, rfl⟩
      rw [← hTT]
      refine e_iast dX0_hear_86 (isK.l9 hk) p rfl (by omega) (by decide) (fun h1 hh1 => ?_)
      refine e_aload_n dX0_hear_87 rfl ?_
      refine e_getR (o := 10) (b := kc + 10) dX0_hear_88 lkX0_56 (isK.l0 hk) rfl (by decide) rfl ?_
      refine e_iload_n dX0_hear_91 rfl ?_
      refine e_aload_n dX0_hear_92 rfl ?_
      refine e_iload_n dX0_hear_93 rfl ?_
      have hR1 : RK h1 kc (upd st (36 + p) TT) V P := by rw [hh1]; exact hR.w_tk hV hP hp TT
      refine e_callVi (n := 1) mX0_isSet [.int (nI p)] dX0_hear_94 ckX0_72 rfl (by decide +kernel) rfl (isK.l0 hk) rfl rfl (Nat.le_of_ble_eq_true rfl) ⟨Nat.zero_le _, Nat.zero_le _⟩ (s_Cset kc hk h1 (upd st (36 + p) TT) V P hP hR1 p hp) (fun v94 m5 hm5 => ?_)
      rcases hm5 with ⟨rfl, ⟨rfl, q⟩ | ⟨rfl, q⟩⟩
      · refine e_if_eq 105 dX0_hear_97 (by decide) (fun h => absurd h (by decide)) (fun c97 => ?_)
        refine e_ldc dX0_hear_100 kkX0_65 ?_
        refine e_goto 107 dX0_hear_102 (by decide) ?_
        refine e_iast dX0_hear_107 (isK.l10 hk) p rfl (by omega) (by decide) (fun h2 hh2 => ?_)
        exact e_vret dX0_hear_108 rfl (by
        rw [upd_s, upd_n _ _ (by omega)] at q
        refine ⟨?_, ?_⟩
        · have hR2 := (hR1.w_dn hV hP hp (if st (26 + p) ≤ TT then 1 else 0)).w_hd hV hP hp (if st (26 + p) ≤ TT then -1000000 else lsB st (m 90) p V)
          unfold hearB setP3
          rw [← hTT, hh2]
          first | (rw [if_pos q] at hR2 ⊢; simpa only [if_pos q] using hR2) | (rw [if_neg q] at hR2 ⊢; simpa only [if_neg q] using hR2)
        · refine KF.tr (m1 := h1) (by rw [hh1]; exact KF.w (by decide) (by decide) _) (by rw [hh2]; exact KF.w (by decide) (by decide) _))
      · refine e_if_eq 105 dX0_hear_97 (by decide) (fun c97 => ?_) (fun h => absurd h (by decide))
        refine e_iload dX0_hear_105 rfl ?_
        refine e_iast dX0_hear_107 (isK.l10 hk) p rfl (by omega) (by decide) (fun h2 hh2 => ?_)
        exact e_vret dX0_hear_108 rfl (by
        rw [upd_s, upd_n _ _ (by omega)] at q
        refine ⟨?_, ?_⟩
        · have hR2 := (hR1.w_dn hV hP hp (if st (26 + p) ≤ TT then 1 else 0)).w_hd hV hP hp (if st (26 + p) ≤ TT then -1000000 else lsB st (m 90) p V)
          unfold hearB setP3
          rw [← hTT, hh2]
          first | (rw [if_pos q] at hR2 ⊢; simpa only [if_pos q] using hR2) | (rw [if_neg q] at hR2 ⊢; simpa only [if_neg q] using hR2)
        · refine KF.tr (m1 := h1) (by rw [hh1]; exact KF.w (by decide) (by decide) _) (by rw [hh2]; exact KF.w (by decide) (by decide) _))
    · refine e_ldc dX0_hear_57 kkX0_65 ?_
      refine e_goto 66 dX0_hear_59 (by decide) ?_
      have b0 : b = 0 := (j_eq (by omega) (by decide) (b := 0)).mp (e1.symm.trans c54)
      rw [show (-1000000 : Int32) = lsB st (m 90) p V from by rw [e2, b0]; rfl]
      refine e_istore (L' := [some (.ref kc), some (.int (nI p)), some (.ref 90), some (.int (ntsB st (m 90) p V)), some (.int (lsB st (m 90) p V))]) dX0_hear_66 (Nat.le_of_ble_eq_true rfl) (Nat.le_of_ble_eq_true rfl) (jnl_at (i := 3) rfl) rfl ?_
      refine e_aload_n dX0_hear_68 rfl ?_
      refine e_getR (o := 9) (b := kc + 9) dX0_hear_69 lkX0_53 (isK.l0 hk) rfl (by decide) rfl ?_
      refine e_iload_n dX0_hear_72 rfl ?_
      refine e_aload_n dX0_hear_73 rfl ?_
      refine e_iload_n dX0_hear_74 rfl ?_
      refine e_aload_n dX0_hear_75 rfl ?_
      refine e_iload_n dX0_hear_76 rfl ?_
      refine e_iload_n dX0_hear_77 rfl ?_
      refine e_iload dX0_hear_78 rfl ?_
      refine e_callVi (n := 3) mX0_judge [.int (nI p), .int (ntsB st (m 90) p V), .int (lsB st (m 90) p V)] dX0_hear_80 ckX0_94 rfl (by decide +kernel) rfl (isK.l0 hk) rfl rfl (Nat.le_of_ble_eq_true rfl) ⟨Nat.zero_le _, Nat.zero_le _⟩ (s_Cjudge kc hk m st V P hR p hP hp (ntsB st (m 90) p V) (lsB st (m 90) p V)) (fun v80 m8 hm8 => ?_)
      obtain ⟨rfl, rfl⟩ := hm8
      refine e_callVi (n := 2) mX0_thickBy [.int (nI p), .int (jdW (st (16 + p)) (st (21 + p)) (st (46 + p)) (ntsB st (m 90) p V) (lsB st (m 90) p V))] dX0_hear_83 ckX0_98 rfl (by decide +kernel) rfl (isK.l0 hk) rfl rfl (Nat.le_of_ble_eq_true rfl) ⟨Nat.zero_le _, Nat.zero_le _⟩ (s_CthickBy kc hk m st V P hR p hP hp (jdW (st (16 + p)) (st (21 + p)) (st (46 + p)) (ntsB st (m 90) p V) (lsB st (m 90) p V))) (fun v83 m9 hm9 => ?_)
      obtain ⟨rfl, rfl⟩ := hm9
      rw [show tkW' (st (16 + p)) (st 0) (st (36 + p)) (jdW (st (16 + p)) (st (21 + p)) (st (46 + p)) (ntsB st (m 90) p V) (lsB st (m 90) p V)) = thkB (st (16 + p)) (st 0) (st (36 + p)) (lsB st (m 90) p V) (rqB (st (16 + p)) (st (46 + p)) (lsB st (m 90) p V) (rtB st (m 90) p V)) from hT]
      obtain ⟨TT, hTT⟩ : ∃ y : Int32, y = thkB (st (16 + p)) (st 0) (st (36 + p)) (lsB st (m 90) p V) (rqB (st (16 + p)) (st (46 + p)) (lsB st (m 90) p V) (rtB st (m 90) p V)) := ⟨_, rfl⟩
      rw [← hTT]
      refine e_iast dX0_hear_86 (isK.l9 hk) p rfl (by omega) (by decide) (fun h1 hh1 => ?_)
      refine e_aload_n dX0_hear_87 rfl ?_
      refine e_getR (o := 10) (b := kc + 10) dX0_hear_88 lkX0_56 (isK.l0 hk) rfl (by decide) rfl ?_
      refine e_iload_n dX0_hear_91 rfl ?_
      refine e_aload_n dX0_hear_92 rfl ?_
      refine e_iload_n dX0_hear_93 rfl ?_
      have hR1 : RK h1 kc (upd st (36 + p) TT) V P := by rw [hh1]; exact hR.w_tk hV hP hp TT
      refine e_callVi (n := 1) mX0_isSet [.int (nI p)] dX0_hear_94 ckX0_72 rfl (by decide +kernel) rfl (isK.l0 hk) rfl rfl (Nat.le_of_ble_eq_true rfl) ⟨Nat.zero_le _, Nat.zero_le _⟩ (s_Cset kc hk h1 (upd st (36 + p) TT) V P hP hR1 p hp) (fun v94 m11 hm11 => ?_)
      rcases hm11 with ⟨rfl, ⟨rfl, q⟩ | ⟨rfl, q⟩⟩
      · refine e_if_eq 105 dX0_hear_97 (by decide) (fun h => absurd h (by decide)) (fun c97 => ?_)
        refine e_ldc dX0_hear_100 kkX0_65 ?_
        refine e_goto 107 dX0_hear_102 (by decide) ?_
        refine e_iast dX0_hear_107 (isK.l10 hk) p rfl (by omega) (by decide) (fun h2 hh2 => ?_)
        exact e_vret dX0_hear_108 rfl (by
        rw [upd_s, upd_n _ _ (by omega)] at q
        refine ⟨?_, ?_⟩
        · have hR2 := (hR1.w_dn hV hP hp (if st (26 + p) ≤ TT then 1 else 0)).w_hd hV hP hp (if st (26 + p) ≤ TT then -1000000 else lsB st (m 90) p V)
          unfold hearB setP3
          rw [← hTT, hh2]
          first | (rw [if_pos q] at hR2 ⊢; simpa only [if_pos q] using hR2) | (rw [if_neg q] at hR2 ⊢; simpa only [if_neg q] using hR2)
        · refine KF.tr (m1 := h1) (by rw [hh1]; exact KF.w (by decide) (by decide) _) (by rw [hh2]; exact KF.w (by decide) (by decide) _))
      · refine e_if_eq 105 dX0_hear_97 (by decide) (fun c97 => ?_) (fun h => absurd h (by decide))
        refine e_iload dX0_hear_105 rfl ?_
        refine e_iast dX0_hear_107 (isK.l10 hk) p rfl (by omega) (by decide) (fun h2 hh2 => ?_)
        exact e_vret dX0_hear_108 rfl (by
        rw [upd_s, upd_n _ _ (by omega)] at q
        refine ⟨?_, ?_⟩
        · have hR2 := (hR1.w_dn hV hP hp (if st (26 + p) ≤ TT then 1 else 0)).w_hd hV hP hp (if st (26 + p) ≤ TT then -1000000 else lsB st (m 90) p V)
          unfold hearB setP3
          rw [← hTT, hh2]
          first | (rw [if_pos q] at hR2 ⊢; simpa only [if_pos q] using hR2) | (rw [if_neg q] at hR2 ⊢; simpa only [if_neg q] using hR2)
        · refine KF.tr (m1 := h1) (by rw [hh1]; exact KF.w (by decide) (by decide) _) (by rw [hh2]; exact KF.w (by decide) (by decide) _))
  · intro k hkV ih
    show jE _ _ 5 [some (.ref kc), some (.int (nI p)), some (.ref 90), some (.int (ntsB st (m 90) p k)), some (.int (nI k))] [] m
    refine e_iload dX0_hear_5 rfl ?_
    refine e_aload_n dX0_hear_7 rfl ?_
    refine e_getI dX0_hear_8 lkX0_19 (isK.l0 hk) rfl ?_
    rw [show m kc 2 = nI V from hR.vs]
    refine e_icmp_ge 53 dX0_hear_11 (by decide) (fun h => absurd h (j_more (N := V) rfl rfl (by omega) (by omega))) (fun c11 => ?_)
    refine e_aload_n dX0_hear_14 rfl ?_
    refine e_iload dX0_hear_15 rfl ?_
    refine e_iald dX0_hear_17 rfl k rfl (by omega) (by decide) ?_
    refine e_bipush (v := 7) dX0_hear_18 rfl ?_
    refine e_icmp_eq 47 dX0_hear_20 (by decide) (fun c20 => ?_) (fun c20 => ?_)
    · refine e_iinc (v := nI (k + 1)) (L' := [some (.ref kc), some (.int (nI p)), some (.ref 90), some (.int (ntsB st (m 90) p k)), some (.int (nI (k + 1)))]) dX0_hear_47 rfl (j_inc rfl) (by decide) (jnl_at (i := 3) rfl) rfl ?_
      refine e_goto 5 dX0_hear_50 (by decide) ?_
      have e : ntsB st (m 90) p k = ntsB st (m 90) p (k + 1) := (if_neg (fun z => by first | exact z.1 c20 | exact c35 z.2)).symm
      rw [e]
      exact ih
    · refine e_aload_n dX0_hear_23 rfl ?_
      refine e_getR (o := 8) (b := kc + 8) dX0_hear_24 lkX0_50 (isK.l0 hk) rfl (by decide) rfl ?_
      refine e_iload_n dX0_hear_27 rfl ?_
      refine e_iald dX0_hear_28 (isK.l8 hk) p rfl (by omega) (by decide) ?_
      rw [show m (kc + 8) p = st (31 + p) from hR.hr p hp]
      refine e_iload dX0_hear_29 rfl ?_
      refine e_ishr dX0_hear_31 ?_
      refine e_iconst (v := 1) dX0_hear_32 rfl ?_
      refine e_iand dX0_hear_33 ?_
      refine e_iconst (v := 1) dX0_hear_34 rfl ?_
      refine e_icmp_ne 47 dX0_hear_35 (by decide) (fun c35 => ?_) (fun c35 => ?_)
      · refine e_iinc (v := nI (k + 1)) (L' := [some (.ref kc), some (.int (nI p)), some (.ref 90), some (.int (ntsB st (m 90) p k)), some (.int (nI (k + 1)))]) dX0_hear_47 rfl (j_inc rfl) (by decide) (jnl_at (i := 3) rfl) rfl ?_
        refine e_goto 5 dX0_hear_50 (by decide) ?_
        have e : ntsB st (m 90) p k = ntsB st (m 90) p (k + 1) := (if_neg (fun z => by first | exact z.1 c20 | exact c35 z.2)).symm
        rw [e]
        exact ih
      · refine e_iload_n dX0_hear_38 rfl ?_
        refine e_iconst (v := 1) dX0_hear_39 rfl ?_
        refine e_aload_n dX0_hear_40 rfl ?_
        refine e_iload dX0_hear_41 rfl ?_
        refine e_iald dX0_hear_43 rfl k rfl (by omega) (by decide) ?_
        refine e_ishl dX0_hear_44 ?_
        refine e_ior dX0_hear_45 ?_
        refine e_istore_n (L' := [some (.ref kc), some (.int (nI p)), some (.ref 90), some (.int ((ntsB st (m 90) p k) ||| (1 <<< ((m 90 k) &&& 31)))), some (.int (nI k))]) dX0_hear_46 (Nat.le_of_ble_eq_true rfl) (Nat.le_of_ble_eq_true rfl) (jnl_at (i := 2) rfl) rfl ?_
        refine e_iinc (v := nI (k + 1)) (L' := [some (.ref kc), some (.int (nI p)), some (.ref 90), some (.int ((ntsB st (m 90) p k) ||| (1 <<< ((m 90 k) &&& 31)))), some (.int (nI (k + 1)))]) dX0_hear_47 rfl (j_inc rfl) (by decide) (jnl_at (i := 3) rfl) rfl ?_
        refine e_goto 5 dX0_hear_50 (by decide) ?_
        have e : (ntsB st (m 90) p k) ||| (1 <<< ((m 90 k) &&& 31)) = ntsB st (m 90) p (k + 1) := (if_pos ⟨c20, by simpa using c35⟩).symm
        rw [e]
        exact ih
