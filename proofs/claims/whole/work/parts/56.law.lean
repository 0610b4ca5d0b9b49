/-! THE CLAIM OUT OF ONE WALK OF THE LAW'S BODY. Your part is whole_start (and what it stands on); all else here is the same for every law, but numbers. -/
def R_law : String := "JamSongsLaw"
def lw_P (b : Addr) (xs : List Int32) (args : Array Value) (s : State) : Prop := args = #[.ref b] ∧ s.IntsAt b xs ∧ xs.length ≤ 512 ∧ (Jvm.Cond.and given_1 narrow_1).before args s = true
def lw_Q (_ : Array Value) (s : State) (o : Outcome) (t : State) : Prop := o = .returned (some (.int 1)) ∧ Framed s o t [] 600000 7302250
def lw_Z (below : List Frame) (a : Array Value) (s : State) : State → Prop := fun t => ∃ o, t.status = .running ∧ Ended t below o ∧ lw_Q a s o t
/-- the law's own end, with 1 on the stack, nothing written that was there before, its room as the claim has it -/
theorem lw_ret {p : Program} {l : Launch} {e : Env} {s : State} {m : MethodId} {below : List Frame} {meth : Method} {c : Code} {b : Nat} (hx : p.tables.exec = Jvm.exec) (hb : c.code = code) (hr : meth.sig.returnType = ret) (hlocks : meth.locks = false) {pc : Nat} {H : Heap} {ls : Array Slot} (hdg : decode code pc = .ok (.ireturn, 1)) : W p l e room_1 s m #[Value.ref b] below meth c H [] 600000 7302250 (lw_Z below #[Value.ref b] s) (F0 m pc ls [.int 1]) := by
  intro T hT X
  obtain ⟨fs, hret, hrun, hended, hW, hframe⟩ := X.leave (v := some (.int 1)) (hlocks := hlocks) (fun h => by rw [hr] at h; cases h)
  have hmeth' : T.vm.method? m = some meth := X.method'
  refine ⟨T.setFrames fs, ?_, .returned (some (.int 1)), hrun, hended, rfl, ⟨_, rfl⟩, hW, hframe⟩
  jvm_step X.here [X.here.top, hx, hb, hdg, hmeth', hr, ret, narrow_b1]
  (try refine ⟨rfl, ?_⟩); (try refine ⟨rfl, ?_⟩)
  first | (intro acts; rw [hret _ acts rfl rfl rfl]) | rw [hret _ _ rfl rfl rfl]
  exact Steps.refl _
/-- what holds at the law's entry: the machine, the code, the tables' words (any of lw_tbl by 'hts w (by decide +kernel)'), the script of L ints xs at the cell b, what the Statement gives of the start (any of its parts by flat_of_before) -/
def lw_At (p : Program) (s : State) (m : MethodId) (meth : Method) (c : Code) (b L : Nat) (xs : Nat → Int32) : Prop :=
  p.tables.exec = Jvm.exec ∧ c.code = code ∧ meth.sig.returnType = ret ∧ c.maxLocals = 4 ∧ s.vm.findClass R_law = some m.cls ∧ (∀ w ∈ lw_tbl, w.before #[Value.ref b] s = true) ∧ va_X b L xs s s.heap ∧ b < s.heap.size ∧ meth.locks = false ∧ (Jvm.Cond.and given_1 narrow_1).before #[Value.ref b] s = true
/-! ===== the world made, and the law's own rows ===== -/
def M_law : jMeth := (x, code, 4, ret, RL, 0, 0)
def gfin (m : jM) (c : Nat) : Bool := if (jlay c).1 = 5 then (List.range (jN (jlay c).2)).all (fun f => decide (jfo (jlay c).2 f = 0) || decide (¬ m c f = 0)) else if (jlay c).1 < 2 then true else decide ((jlay c).1 < 5) && (List.range (jlay c).2).all (fun j => decide (¬ m c j = 0))
theorem gfin_at {G : jG} {m : jM} {c : Nat} {H : Heap} (hf : gfin m c = true) (h : va_at G.1 jCl (G.2.2 c, gent G m c) H) : va_at G.1 jCl (G.2.2 c, jent G m c) H := by
  obtain ⟨kd, n, hk⟩ : ∃ kd n, jlay c = (kd, n) := ⟨_, _, rfl⟩
  unfold gfin at hf
  rw [hk] at hf
  by_cases h5 : kd = 5
  · subst h5
    rw [if_pos (show ((5 : Nat), n).1 = 5 from rfl)] at hf
    rw [gent_obj hk] at h
    rw [jent_obj hk]
    have e : (List.range (jN n)).map (jfv G m c n) = (List.range (jN n)).map (gfv G m c n) := by
      refine List.map_congr_left (fun f hfm => ?_)
      have := List.all_eq_true.mp hf f hfm
      unfold jfv gfv
      by_cases h0 : jfo n f = 0
      · rw [if_pos h0, if_pos h0]
      · rw [if_neg h0, if_neg h0]
        rcases Bool.or_eq_true _ _ |>.mp this with q | q
        · exact absurd (of_decide_eq_true q) h0
        · rw [if_neg (of_decide_eq_true q)]
    rw [e]
    exact h
  · rw [if_neg (show ¬ (kd, n).1 = 5 from h5)] at hf
    by_cases h2 : kd < 2
    · rw [gent_arr hk h2] at h
      rw [jent_arr hk h2]
      exact h
    · rw [if_neg (show ¬ (kd, n).1 < 2 from h2), Bool.and_eq_true] at hf
      have h6 : kd < 5 := of_decide_eq_true hf.1
      rw [gent_refs hk (by omega) h6] at h
      rw [jent_refs hk (by omega) h6]
      have h' : H[G.2.2 c]? = some (vp_cell (G.2.1 kd) (n, .inr (.inr (.inr (.inr (fun j => if m c j = 0 then none else some (G.2.2 (jtg c j)))))))) := h
      show H[G.2.2 c]? = some (vp_cell (G.2.1 kd) _)
      rw [h', vp_cell_q, vp_cell_q]
      unfold arrV
      have e : (Array.ofFn (n := n) fun j => va_rf (if m c j.val = 0 then none else some (G.2.2 (jtg c j.val)))) = Array.ofFn (n := n) fun j => va_rf (some (G.2.2 (jtg c j.val))) := by
        congr 1
        funext j
        have := List.all_eq_true.mp hf.2 j.val (List.mem_range.mpr j.isLt)
        rw [if_neg (of_decide_eq_true this)]
      rw [e]
theorem gP_fin {G : jG} {m : jM} {H : Heap} (hf : (List.range 113).all (gfin m) = true) (h : gP G m 113 H) : va_P G.1 jCl (jw G m) H := by
  intro k q hq
  have hk : k < 113 := by
    have := (List.getElem?_eq_some_iff.mp hq).1
    simpa [jw] using this
  rw [jw_get G m hk] at hq
  cases hq
  refine gfin_at (List.all_eq_true.mp hf k (List.mem_range.mpr hk)) (h.1 k hk ?_)
  unfold jor
  (repeat' split) <;> omega
def lBQ (G : jG) (s : State) (args : Array Value) (below : List Frame) : State → Prop := fun t => args = #[Value.ref (G.2.2 114)] → lw_Z below args s t
def lX (L : Nat) (xs : Nat → Int32) (G : jG) (s : State) : Prop := va_X (G.2.2 114) L xs s s.heap ∧ G.2.2 114 < s.heap.size ∧ G.2.2 0 = s.heap.size ∧ L ≤ 512
def lB (L : Nat) (xs : Nat → Int32) : jMode := (room_1, 113, 3356, fun G s _ args below => lBQ G s args below, fun G s A => A = gA G ∧ lX L xs G s)
def lG (L : Nat) (xs : Nat → Int32) : gMode := (room_1, fun G s args below => lBQ G s args below, fun G s _ => lX L xs G s ∧ jNear G (gA G) s s.heap)
theorem l_cut {L : Nat} {xs : Nat → Int32} {pc : Nat} {Lc : List (Option Value)} {S : List Value} {m : jM} (hf : (List.range 113).all (gfin m) = true) (k : jE (lB L xs) M_law pc Lc S m) : gE (lG L xs) M_law pc Lc S m 113 113 3356 := by
  intro p l e G s mth args below meth c C X H locs ls hl hP hS
  have hA := C.2.2.2.2.2.2.2.2.2.1
  refine k p l e G (gA G) s mth args below meth c ⟨C.1, C.2.1, C.2.2.1, C.2.2.2.1, C.2.2.2.2.1, C.2.2.2.2.2.1, C.2.2.2.2.2.2.1, C.2.2.2.2.2.2.2.1, X.2, fun i j hi hj h => ?_, fun k hk => ?_⟩ ⟨rfl, X.1⟩ H locs ls hl (gP_fin hf hP) hS
  · refine jor_inj hi hj ?_
    rw [hA i hi, hA j hj] at h
    omega
  · show G.2.2 0 ≤ G.2.2 k
    rw [hA k hk]
    omega
theorem l_sld {L : Nat} {xs : Nat → Int32} {pc : Nat} {Lc : List (Option Value)} {S : List Value} {m : jM} {i : Int32} (hd : decode cL_law pc = .ok (.iaload, 1)) (j : Nat) (hi : i = nI j) (hj : j < L) (k : jE (lB L xs) M_law (pc + 1) Lc (.int (xs j) :: S) m) : jE (lB L xs) M_law pc Lc (.int i :: .ref 114 :: S) m := by
  intro p l e G A s mth args below meth c C X H locs ls hl hP hS
  subst hi
  obtain ⟨rfl, hX, hb, h0, hL⟩ := X
  have hcl : (nI j).toNatClampNeg = j := nI_clamp (by omega)
  refine va_sld (A := gA G) (H0 := s.heap) C.1 C.2.1 hX hb (fun q => ?_) hS (vp_in_nI hj (by omega)) hd ?_
  · have q : G.2.2 0 ≤ G.2.2 114 := q
    omega
  · rw [hcl]
    exact k p l e G (gA G) s mth args below meth c C ⟨rfl, hX, hb, h0, hL⟩ H locs ls hl hP hS
theorem l_slen {L : Nat} {xs : Nat → Int32} {pc : Nat} {Lc : List (Option Value)} {S : List Value} {m : jM} (hd : decode cL_law pc = .ok (.arraylength, 1)) (k : L ≤ 512 → jE (lB L xs) M_law (pc + 1) Lc (.int (nI L) :: S) m) : jE (lB L xs) M_law pc Lc (.ref 114 :: S) m := by
  intro p l e G A s mth args below meth c C X H locs ls hl hP hS
  obtain ⟨rfl, hX, hb, h0, hL⟩ := X
  refine va_slen (A := gA G) (H0 := s.heap) C.1 C.2.1 hX hb (fun q => ?_) hS hd (k hL p l e G (gA G) s mth args below meth c C ⟨rfl, hX, hb, h0, hL⟩ H locs ls hl hP hS)
  have q : G.2.2 0 ≤ G.2.2 114 := q
  omega
theorem l_ret {L : Nat} {xs : Nat → Int32} {pc : Nat} {Lc : List (Option Value)} {m : jM} (hd : decode cL_law pc = .ok (.ireturn, 1)) : jE (lB L xs) M_law pc Lc [.int 1] m := by
  intro p l e G A s mth args below meth c C X H locs ls hl hP hS
  obtain ⟨rfl, hX, hb, h0, hL⟩ := X
  by_cases ha : args = #[Value.ref (G.2.2 114)]
  · subst ha
    have hw : W p l e room_1 s mth #[Value.ref (G.2.2 114)] below meth c H locs 113 3356 (lw_Z below #[Value.ref (G.2.2 114)] s) (F0 mth pc ls [.int 1]) :=
      W.widen (k := 600000) (n := 7302250) (Nat.le_of_ble_eq_true rfl) (Nat.le_of_ble_eq_true rfl) (va_forget (fun q hq => by have := hS.2.2 q hq; have h9 : G.2.2 0 ≤ q.base := this; omega) (lw_ret C.1 C.2.1 C.2.2.2.1 C.2.2.2.2.1 hd))
    intro T hT Xs
    obtain ⟨t, a1, b1⟩ := hw T hT Xs
    exact ⟨t, a1, fun _ => b1⟩
  · intro T hT Xs
    exact ⟨_, Steps.refl _, fun q => absurd q ha⟩
theorem l_out {w : Int32} (h : ∀ n : Nat, n < 27 → ¬ w = nI n) : w.toInt < 0 ∨ 26 < w.toInt := by
  by_cases h1 : w.toInt < 0
  · exact Or.inl h1
  · by_cases h2 : 26 < w.toInt
    · exact Or.inr h2
    · refine absurd ?_ (h w.toInt.toNat (by omega))
      apply Int32.toInt_inj.mp
      rw [nI_toInt (by omega)]
      omega
theorem l_more {L k : Nat} (hL : L ≤ 512) (hk : k ≤ 65) (h : ¬ nI L - 8 < nI (8 * k)) : 8 * k + 8 ≤ L := by
  have h1 : (nI L - 8 : Int32).toInt = (L : Int) - 8 := by
    rw [Int32.toInt_sub, nI_toInt (by omega)]
    show Int.bmod ((L : Int) - 8) (2 ^ 32) = _
    rw [Int.bmod_eq_of_le (by omega) (by omega)]
  have h2 : ¬ (nI L - 8 : Int32).toInt < (nI (8 * k)).toInt := fun q => h (Int32.lt_iff_toInt_lt.mpr q)
  rw [h1, nI_toInt (by omega)] at h2
  omega
def LL (k : Nat) : List (Option Value) := [some (.ref 114), some (.ref 0), some (.ref 98), some (.int (nI (8 * k)))]
theorem ckL_13 : jCV RL 13 mX3_row := ⟨(List.mem_of_getElem? (i := 95) (by decide +kernel)), (List.mem_of_getElem? (i := 96) (by decide +kernel)), (List.mem_of_getElem? (i := 97) (by decide +kernel)), (List.mem_of_getElem? (i := 2) (by decide +kernel)), cd_mX3_row⟩
theorem ckL_17 : jCV RL 17 mX4_row := ⟨(List.mem_of_getElem? (i := 120) (by decide +kernel)), (List.mem_of_getElem? (i := 121) (by decide +kernel)), (List.mem_of_getElem? (i := 122) (by decide +kernel)), (List.mem_of_getElem? (i := 5) (by decide +kernel)), cd_mX4_row⟩
theorem ckL_18 : jCV RL 18 mX3_set := ⟨(List.mem_of_getElem? (i := 143) (by decide +kernel)), (List.mem_of_getElem? (i := 144) (by decide +kernel)), (List.mem_of_getElem? (i := 145) (by decide +kernel)), (List.mem_of_getElem? (i := 2) (by decide +kernel)), cd_mX3_set⟩
theorem ckL_21 : jCV RL 21 mX4_set := ⟨(List.mem_of_getElem? (i := 157) (by decide +kernel)), (List.mem_of_getElem? (i := 158) (by decide +kernel)), (List.mem_of_getElem? (i := 159) (by decide +kernel)), (List.mem_of_getElem? (i := 5) (by decide +kernel)), cd_mX4_set⟩
theorem ckL_22 : jCV RL 22 mX3_copy := ⟨(List.mem_of_getElem? (i := 164) (by decide +kernel)), (List.mem_of_getElem? (i := 165) (by decide +kernel)), (List.mem_of_getElem? (i := 166) (by decide +kernel)), (List.mem_of_getElem? (i := 2) (by decide +kernel)), cd_mX3_copy⟩
theorem ckL_26 : jCV RL 26 mX4_copy := ⟨(List.mem_of_getElem? (i := 173) (by decide +kernel)), (List.mem_of_getElem? (i := 174) (by decide +kernel)), (List.mem_of_getElem? (i := 175) (by decide +kernel)), (List.mem_of_getElem? (i := 5) (by decide +kernel)), cd_mX4_copy⟩
theorem ckL_27 : jCV RL 27 mX3_drop := ⟨(List.mem_of_getElem? (i := 177) (by decide +kernel)), (List.mem_of_getElem? (i := 178) (by decide +kernel)), (List.mem_of_getElem? (i := 179) (by decide +kernel)), (List.mem_of_getElem? (i := 2) (by decide +kernel)), cd_mX3_drop⟩
theorem ckL_31 : jCV RL 31 mX4_drop := ⟨(List.mem_of_getElem? (i := 182) (by decide +kernel)), (List.mem_of_getElem? (i := 183) (by decide +kernel)), (List.mem_of_getElem? (i := 184) (by decide +kernel)), (List.mem_of_getElem? (i := 5) (by decide +kernel)), cd_mX4_drop⟩
theorem ckL_32 : jCV RL 32 mX3_feed := ⟨(List.mem_of_getElem? (i := 186) (by decide +kernel)), (List.mem_of_getElem? (i := 187) (by decide +kernel)), (List.mem_of_getElem? (i := 188) (by decide +kernel)), (List.mem_of_getElem? (i := 2) (by decide +kernel)), cd_mX3_feed⟩
theorem ckL_35 : jCV RL 35 mX4_feed := ⟨(List.mem_of_getElem? (i := 193) (by decide +kernel)), (List.mem_of_getElem? (i := 194) (by decide +kernel)), (List.mem_of_getElem? (i := 195) (by decide +kernel)), (List.mem_of_getElem? (i := 5) (by decide +kernel)), cd_mX4_feed⟩
theorem ckL_36 : jCV RL 36 mX3_kitchen := ⟨(List.mem_of_getElem? (i := 200) (by decide +kernel)), (List.mem_of_getElem? (i := 201) (by decide +kernel)), (List.mem_of_getElem? (i := 202) (by decide +kernel)), (List.mem_of_getElem? (i := 2) (by decide +kernel)), cd_mX3_kitchen⟩
theorem ckL_40 : jCV RL 40 mX4_kitchen := ⟨(List.mem_of_getElem? (i := 267) (by decide +kernel)), (List.mem_of_getElem? (i := 268) (by decide +kernel)), (List.mem_of_getElem? (i := 269) (by decide +kernel)), (List.mem_of_getElem? (i := 5) (by decide +kernel)), cd_mX4_kitchen⟩
theorem ckL_41 : jCV RL 41 mX3_fault := ⟨(List.mem_of_getElem? (i := 317) (by decide +kernel)), (List.mem_of_getElem? (i := 318) (by decide +kernel)), (List.mem_of_getElem? (i := 319) (by decide +kernel)), (List.mem_of_getElem? (i := 2) (by decide +kernel)), cd_mX3_fault⟩
theorem ckL_44 : jCV RL 44 mX4_fault := ⟨(List.mem_of_getElem? (i := 321) (by decide +kernel)), (List.mem_of_getElem? (i := 322) (by decide +kernel)), (List.mem_of_getElem? (i := 323) (by decide +kernel)), (List.mem_of_getElem? (i := 5) (by decide +kernel)), cd_mX4_fault⟩
theorem ckL_45 : jCV RL 45 mX3_bar := ⟨(List.mem_of_getElem? (i := 325) (by decide +kernel)), (List.mem_of_getElem? (i := 326) (by decide +kernel)), (List.mem_of_getElem? (i := 327) (by decide +kernel)), (List.mem_of_getElem? (i := 2) (by decide +kernel)), cd_mX3_bar⟩
theorem ckL_48 : jCV RL 48 mX4_bar := ⟨(List.mem_of_getElem? (i := 380) (by decide +kernel)), (List.mem_of_getElem? (i := 381) (by decide +kernel)), (List.mem_of_getElem? (i := 382) (by decide +kernel)), (List.mem_of_getElem? (i := 5) (by decide +kernel)), cd_mX4_bar⟩
theorem ckL_49 : jCV RL 49 mX3_window := ⟨(List.mem_of_getElem? (i := 408) (by decide +kernel)), (List.mem_of_getElem? (i := 409) (by decide +kernel)), (List.mem_of_getElem? (i := 410) (by decide +kernel)), (List.mem_of_getElem? (i := 2) (by decide +kernel)), cd_mX3_window⟩
theorem ckL_52 : jCV RL 52 mX4_window := ⟨(List.mem_of_getElem? (i := 413) (by decide +kernel)), (List.mem_of_getElem? (i := 414) (by decide +kernel)), (List.mem_of_getElem? (i := 415) (by decide +kernel)), (List.mem_of_getElem? (i := 5) (by decide +kernel)), cd_mX4_window⟩
theorem ckL_53 : jCV RL 53 mX3_undo := ⟨(List.mem_of_getElem? (i := 425) (by decide +kernel)), (List.mem_of_getElem? (i := 426) (by decide +kernel)), (List.mem_of_getElem? (i := 427) (by decide +kernel)), (List.mem_of_getElem? (i := 2) (by decide +kernel)), cd_mX3_undo⟩
theorem ckL_56 : jCV RL 56 mX4_undo := ⟨(List.mem_of_getElem? (i := 433) (by decide +kernel)), (List.mem_of_getElem? (i := 434) (by decide +kernel)), (List.mem_of_getElem? (i := 435) (by decide +kernel)), (List.mem_of_getElem? (i := 5) (by decide +kernel)), cd_mX4_undo⟩
theorem ckL_57 : jCV RL 57 mX3_pan := ⟨(List.mem_of_getElem? (i := 437) (by decide +kernel)), (List.mem_of_getElem? (i := 438) (by decide +kernel)), (List.mem_of_getElem? (i := 439) (by decide +kernel)), (List.mem_of_getElem? (i := 2) (by decide +kernel)), cd_mX3_pan⟩
theorem ckL_61 : jCV RL 61 mX4_pan := ⟨(List.mem_of_getElem? (i := 446) (by decide +kernel)), (List.mem_of_getElem? (i := 447) (by decide +kernel)), (List.mem_of_getElem? (i := 448) (by decide +kernel)), (List.mem_of_getElem? (i := 5) (by decide +kernel)), cd_mX4_pan⟩
theorem ckL_62 : jCV RL 62 mX3_singer := ⟨(List.mem_of_getElem? (i := 450) (by decide +kernel)), (List.mem_of_getElem? (i := 451) (by decide +kernel)), (List.mem_of_getElem? (i := 452) (by decide +kernel)), (List.mem_of_getElem? (i := 2) (by decide +kernel)), cd_mX3_singer⟩
theorem ckL_65 : jCV RL 65 mX4_singer := ⟨(List.mem_of_getElem? (i := 458) (by decide +kernel)), (List.mem_of_getElem? (i := 459) (by decide +kernel)), (List.mem_of_getElem? (i := 460) (by decide +kernel)), (List.mem_of_getElem? (i := 5) (by decide +kernel)), cd_mX4_singer⟩
theorem ckL_66 : jCV RL 66 mX3_alone := ⟨(List.mem_of_getElem? (i := 462) (by decide +kernel)), (List.mem_of_getElem? (i := 463) (by decide +kernel)), (List.mem_of_getElem? (i := 464) (by decide +kernel)), (List.mem_of_getElem? (i := 2) (by decide +kernel)), cd_mX3_alone⟩
theorem ckL_70 : jCV RL 70 mX4_alone := ⟨(List.mem_of_getElem? (i := 481) (by decide +kernel)), (List.mem_of_getElem? (i := 482) (by decide +kernel)), (List.mem_of_getElem? (i := 483) (by decide +kernel)), (List.mem_of_getElem? (i := 5) (by decide +kernel)), cd_mX4_alone⟩
theorem ckL_71 : jCV RL 71 mX3_round := ⟨(List.mem_of_getElem? (i := 506) (by decide +kernel)), (List.mem_of_getElem? (i := 507) (by decide +kernel)), (List.mem_of_getElem? (i := 508) (by decide +kernel)), (List.mem_of_getElem? (i := 2) (by decide +kernel)), cd_mX3_round⟩
theorem ckL_74 : jCV RL 74 mX4_round := ⟨(List.mem_of_getElem? (i := 514) (by decide +kernel)), (List.mem_of_getElem? (i := 515) (by decide +kernel)), (List.mem_of_getElem? (i := 516) (by decide +kernel)), (List.mem_of_getElem? (i := 5) (by decide +kernel)), cd_mX4_round⟩
theorem ckL_75 : jCV RL 75 mX3_bestRound := ⟨(List.mem_of_getElem? (i := 523) (by decide +kernel)), (List.mem_of_getElem? (i := 524) (by decide +kernel)), (List.mem_of_getElem? (i := 525) (by decide +kernel)), (List.mem_of_getElem? (i := 2) (by decide +kernel)), cd_mX3_bestRound⟩
theorem ckL_78 : jCV RL 78 mX4_bestRound := ⟨(List.mem_of_getElem? (i := 533) (by decide +kernel)), (List.mem_of_getElem? (i := 534) (by decide +kernel)), (List.mem_of_getElem? (i := 535) (by decide +kernel)), (List.mem_of_getElem? (i := 5) (by decide +kernel)), cd_mX4_bestRound⟩
theorem ckL_79 : jCV RL 79 mX3_song := ⟨(List.mem_of_getElem? (i := 540) (by decide +kernel)), (List.mem_of_getElem? (i := 541) (by decide +kernel)), (List.mem_of_getElem? (i := 542) (by decide +kernel)), (List.mem_of_getElem? (i := 2) (by decide +kernel)), cd_mX3_song⟩
theorem ckL_82 : jCV RL 82 mX4_song := ⟨(List.mem_of_getElem? (i := 560) (by decide +kernel)), (List.mem_of_getElem? (i := 561) (by decide +kernel)), (List.mem_of_getElem? (i := 562) (by decide +kernel)), (List.mem_of_getElem? (i := 5) (by decide +kernel)), cd_mX4_song⟩
theorem ckL_83 : jCV RL 83 mX3_toShut := ⟨(List.mem_of_getElem? (i := 571) (by decide +kernel)), (List.mem_of_getElem? (i := 572) (by decide +kernel)), (List.mem_of_getElem? (i := 573) (by decide +kernel)), (List.mem_of_getElem? (i := 2) (by decide +kernel)), cd_mX3_toShut⟩
theorem ckL_87 : jCV RL 87 mX4_toShut := ⟨(List.mem_of_getElem? (i := 580) (by decide +kernel)), (List.mem_of_getElem? (i := 581) (by decide +kernel)), (List.mem_of_getElem? (i := 582) (by decide +kernel)), (List.mem_of_getElem? (i := 5) (by decide +kernel)), cd_mX4_toShut⟩
theorem ckL_88 : jCV RL 88 mX3_modes := ⟨(List.mem_of_getElem? (i := 584) (by decide +kernel)), (List.mem_of_getElem? (i := 585) (by decide +kernel)), (List.mem_of_getElem? (i := 586) (by decide +kernel)), (List.mem_of_getElem? (i := 2) (by decide +kernel)), cd_mX3_modes⟩
theorem ckL_92 : jCV RL 92 mX4_modes := ⟨(List.mem_of_getElem? (i := 588) (by decide +kernel)), (List.mem_of_getElem? (i := 589) (by decide +kernel)), (List.mem_of_getElem? (i := 590) (by decide +kernel)), (List.mem_of_getElem? (i := 5) (by decide +kernel)), cd_mX4_modes⟩
theorem ckL_93 : jCV RL 93 mX3_coughs := ⟨(List.mem_of_getElem? (i := 593) (by decide +kernel)), (List.mem_of_getElem? (i := 594) (by decide +kernel)), (List.mem_of_getElem? (i := 595) (by decide +kernel)), (List.mem_of_getElem? (i := 2) (by decide +kernel)), cd_mX3_coughs⟩
theorem ckL_96 : jCV RL 96 mX4_coughs := ⟨(List.mem_of_getElem? (i := 607) (by decide +kernel)), (List.mem_of_getElem? (i := 608) (by decide +kernel)), (List.mem_of_getElem? (i := 609) (by decide +kernel)), (List.mem_of_getElem? (i := 5) (by decide +kernel)), cd_mX4_coughs⟩
theorem ckL_97 : jCV RL 97 mX3_image := ⟨(List.mem_of_getElem? (i := 612) (by decide +kernel)), (List.mem_of_getElem? (i := 613) (by decide +kernel)), (List.mem_of_getElem? (i := 614) (by decide +kernel)), (List.mem_of_getElem? (i := 2) (by decide +kernel)), cd_mX3_image⟩
theorem ckL_100 : jCV RL 100 mX4_image := ⟨(List.mem_of_getElem? (i := 616) (by decide +kernel)), (List.mem_of_getElem? (i := 617) (by decide +kernel)), (List.mem_of_getElem? (i := 618) (by decide +kernel)), (List.mem_of_getElem? (i := 5) (by decide +kernel)), cd_mX4_image⟩
theorem ckL_101 : jCV RL 101 mX3_restore := ⟨(List.mem_of_getElem? (i := 620) (by decide +kernel)), (List.mem_of_getElem? (i := 621) (by decide +kernel)), (List.mem_of_getElem? (i := 622) (by decide +kernel)), (List.mem_of_getElem? (i := 2) (by decide +kernel)), cd_mX3_restore⟩
theorem ckL_104 : jCV RL 104 mX4_restore := ⟨(List.mem_of_getElem? (i := 624) (by decide +kernel)), (List.mem_of_getElem? (i := 625) (by decide +kernel)), (List.mem_of_getElem? (i := 626) (by decide +kernel)), (List.mem_of_getElem? (i := 5) (by decide +kernel)), cd_mX4_restore⟩
theorem ckL_105 : jCV RL 105 mX3_kind := ⟨(List.mem_of_getElem? (i := 628) (by decide +kernel)), (List.mem_of_getElem? (i := 629) (by decide +kernel)), (List.mem_of_getElem? (i := 630) (by decide +kernel)), (List.mem_of_getElem? (i := 2) (by decide +kernel)), cd_mX3_kind⟩
theorem ckL_108 : jCV RL 108 mX4_kind := ⟨(List.mem_of_getElem? (i := 633) (by decide +kernel)), (List.mem_of_getElem? (i := 634) (by decide +kernel)), (List.mem_of_getElem? (i := 635) (by decide +kernel)), (List.mem_of_getElem? (i := 5) (by decide +kernel)), cd_mX4_kind⟩
theorem ckL_109 : jCV RL 109 mX3_as := ⟨(List.mem_of_getElem? (i := 637) (by decide +kernel)), (List.mem_of_getElem? (i := 638) (by decide +kernel)), (List.mem_of_getElem? (i := 639) (by decide +kernel)), (List.mem_of_getElem? (i := 2) (by decide +kernel)), cd_mX3_as⟩
theorem ckL_112 : jCV RL 112 mX4_as := ⟨(List.mem_of_getElem? (i := 645) (by decide +kernel)), (List.mem_of_getElem? (i := 646) (by decide +kernel)), (List.mem_of_getElem? (i := 647) (by decide +kernel)), (List.mem_of_getElem? (i := 5) (by decide +kernel)), cd_mX4_as⟩
theorem ckL_113 : jCV RL 113 mX3_ask := ⟨(List.mem_of_getElem? (i := 653) (by decide +kernel)), (List.mem_of_getElem? (i := 654) (by decide +kernel)), (List.mem_of_getElem? (i := 655) (by decide +kernel)), (List.mem_of_getElem? (i := 2) (by decide +kernel)), cd_mX3_ask⟩
theorem ckL_116 : jCV RL 116 mX4_ask := ⟨(List.mem_of_getElem? (i := 697) (by decide +kernel)), (List.mem_of_getElem? (i := 698) (by decide +kernel)), (List.mem_of_getElem? (i := 699) (by decide +kernel)), (List.mem_of_getElem? (i := 5) (by decide +kernel)), cd_mX4_ask⟩
theorem ckL_117 : jCV RL 117 mX3_trace := ⟨(List.mem_of_getElem? (i := 734) (by decide +kernel)), (List.mem_of_getElem? (i := 735) (by decide +kernel)), (List.mem_of_getElem? (i := 736) (by decide +kernel)), (List.mem_of_getElem? (i := 2) (by decide +kernel)), cd_mX3_trace⟩
theorem ckL_120 : jCV RL 120 mX4_trace := ⟨(List.mem_of_getElem? (i := 738) (by decide +kernel)), (List.mem_of_getElem? (i := 739) (by decide +kernel)), (List.mem_of_getElem? (i := 740) (by decide +kernel)), (List.mem_of_getElem? (i := 5) (by decide +kernel)), cd_mX4_trace⟩
theorem ckL_121 : jCV RL 121 mX3_count := ⟨(List.mem_of_getElem? (i := 742) (by decide +kernel)), (List.mem_of_getElem? (i := 743) (by decide +kernel)), (List.mem_of_getElem? (i := 744) (by decide +kernel)), (List.mem_of_getElem? (i := 2) (by decide +kernel)), cd_mX3_count⟩
theorem ckL_124 : jCV RL 124 mX4_count := ⟨(List.mem_of_getElem? (i := 752) (by decide +kernel)), (List.mem_of_getElem? (i := 753) (by decide +kernel)), (List.mem_of_getElem? (i := 754) (by decide +kernel)), (List.mem_of_getElem? (i := 5) (by decide +kernel)), cd_mX4_count⟩
theorem ckL_125 : jCV RL 125 mX3_status := ⟨(List.mem_of_getElem? (i := 756) (by decide +kernel)), (List.mem_of_getElem? (i := 757) (by decide +kernel)), (List.mem_of_getElem? (i := 758) (by decide +kernel)), (List.mem_of_getElem? (i := 2) (by decide +kernel)), cd_mX3_status⟩
theorem ckL_128 : jCV RL 128 mX4_status := ⟨(List.mem_of_getElem? (i := 760) (by decide +kernel)), (List.mem_of_getElem? (i := 761) (by decide +kernel)), (List.mem_of_getElem? (i := 762) (by decide +kernel)), (List.mem_of_getElem? (i := 5) (by decide +kernel)), cd_mX4_status⟩
