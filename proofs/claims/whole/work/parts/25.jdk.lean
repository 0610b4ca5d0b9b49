/-- a contract out of a walk, for a method of a class of the library that is no native's -/
theorem jX_ofF {M : jMeth} {as : List Value} {m : jM} {Post : Option Value → jM → Prop} {L : List (Option Value)} (n : Nat) (hL : jloc as ++ List.replicate n none = L) (hn : (jloc as).length + n = M.2.2.1) (hp : plainFor M.1 = true) (ho : M.2.2.2.2.1 = M.1.cls)
    (h : jE (jmd M Post) M 0 L [] m) : jX M as m Post := by
  intro l G
  refine Jvm.Free.MetFree.of_bodySF (code := M.2.1) (maxLocals := M.2.2.1) (ret := M.2.2.2.1) hp ?_ ?_
  · intro args s mth hb hnm
    obtain ⟨meth, c, h1, h2, h3, h4, h5, h6, -, -⟩ := Cond.code_spec hnm (atoms_spec (ws := jws M) hb _ List.mem_cons_self)
    exact ⟨meth, c, h1, h2, h3, h4, h5, h6⟩
  intro p e s mth args below meth c s₁ B hml hv _
  obtain ⟨rfl, hP, hK, hN, hI⟩ := hv
  have hts := atoms_spec (ws := jws M) B.pre
  have hC : jC G (jA G) M p s mth (as.map (jtr G)).toArray meth c :=
    ⟨B.exec, B.bytes, hml, B.returns, B.notSynchronized, by rw [ho]; exact findClass_of_methodNamed B.named, fun w hw => hts w (List.mem_cons_of_mem _ hw), hK, hN, hI, fun k hk => ⟨k, hk, rfl⟩⟩
  have hl := lv_entry (as.map (jtr G)) (n := M.2.2.1) (by rw [lg_sl_tr]; omega)
  have hw := h p l e G (jA G) s mth (as.map (jtr G)).toArray below meth c hC rfl s.heap [] ((lg_sl (as.map (jtr G)) ++ List.replicate (M.2.2.1 - (lg_sl (as.map (jtr G))).length) Slot.unset).toArray) ⟨hl.1, hl.2.1, fun i v hi => by
    refine hl.2.2 (i, jtr G v) ?_
    rw [← hL] at hi
    have hi2 : (jloc as)[i]? = some (some v) := by
      rcases Nat.lt_or_ge i (jloc as).length with q | q
      · rw [List.getElem?_append_left q] at hi
        exact hi
      · rw [List.getElem?_append_right q, List.getElem?_replicate] at hi
        split at hi <;> cases hi
    have := jloc_in G as 0 i v hi2
    rwa [Nat.zero_add] at this⟩ hP va_S.rf
  obtain ⟨t, a1, o, b1, b2, b3⟩ := hw s₁ (by rw [B.state]; rfl) (Stand.of_body B)
  refine ⟨t, o, ?_, b1, b2, ⟨b3.1, b3.2⟩⟩
  rw [lg_entry_eq]
  exact a1
/-! ===== the library's numbers ===== -/
def bcX (x : Int32) : Int32 :=
  let u (x : Int32) (k : Int32) : Int32 := (x.toUInt32 >>> (k.toUInt32 &&& Int32.toUInt32 31)).toInt32
  let a := x - (u x 1 &&& 1431655765)
  let b := (a &&& 858993459) + (u a 2 &&& 858993459)
  let c := (b + u b 4) &&& 252645135
  let d := c + u c 8
  let e := d + u d 16
  e &&& 63
theorem bcX_k : ∀ k, k < 256 → bcX (nI k) = nI (popc k) := fun k h => co_dec (P := fun k => bcX (nI k) = nI (popc k)) (by decide +kernel) h
def ntI (x : Int32) : Int32 := (x ^^^ -1) &&& (x - 1)
def ntU (x k : Int32) : Int32 := (x.toUInt32 >>> (k.toUInt32 &&& Int32.toUInt32 31)).toInt32
def ntS1 (p : Int32 × Int32) (lim sh : Int32) : Int32 × Int32 := if p.2 ≤ lim then p else (p.1 + sh, ntU p.2 sh)
def ntX (x : Int32) : Int32 := if 0 < ntI x then (ntS1 (ntS1 (ntS1 (1, ntI x) 256 8) 16 4) 4 2).1 + ntU (ntS1 (ntS1 (ntS1 (1, ntI x) 256 8) 16 4) 4 2).2 1 else ntI x &&& 32
/-- the place of the lowest bit -/
def ntz : Nat → Nat → Nat
  | 0, _ => 0
  | f + 1, k => if k % 2 = 1 then 0 else ntz f (k / 2) + 1
theorem ntX_k : ∀ k, k < 4096 → k ≠ 0 → ntX (nI k) = nI (ntz 12 k) := fun k h => co_dec (P := fun k => k ≠ 0 → ntX (nI k) = nI (ntz 12 k)) (by decide +kernel) h
theorem ntI_k : ∀ k, k < 4096 → k ≠ 0 → ntI (nI k) ≤ 65536 := fun k h => co_dec (P := fun k => k ≠ 0 → ntI (nI k) ≤ 65536) (by decide +kernel) h
set_option maxHeartbeats 2000000 in
set_option maxRecDepth 20000 in
theorem s_bitX (m : jM) (x : Int32) : iX mInt_bitCount [.int x] m (fun v m1 => m = m1 ∧ v = bcX x) := by
  refine jX_ofF (L := [some (.int x)]) 0 rfl rfl (by decide +kernel) rfl ?_
  refine e_iload_n dJ6_bitCount_0f7a4_0 rfl ?_
  refine e_iload_n dJ6_bitCount_0f7a4_1 rfl ?_
  refine e_iconst (v := 1) dJ6_bitCount_0f7a4_2 rfl ?_
  refine e_iushr dJ6_bitCount_0f7a4_3 ?_
  refine e_ldcw dJ6_bitCount_0f7a4_4 kkJ6_265 ?_
  refine e_iand dJ6_bitCount_0f7a4_7 ?_
  refine e_isub dJ6_bitCount_0f7a4_8 ?_
  refine e_istore_n (L' := [some (.int (x - (((x.toUInt32 >>> ((1 : Int32).toUInt32 &&& Int32.toUInt32 31)).toInt32) &&& 1431655765)))]) dJ6_bitCount_0f7a4_9 (Nat.le_of_ble_eq_true rfl) (Nat.le_of_ble_eq_true rfl) (fun j h => absurd h (Nat.succ_ne_zero j)) rfl ?_
  refine e_iload_n dJ6_bitCount_0f7a4_10 rfl ?_
  refine e_ldcw dJ6_bitCount_0f7a4_11 kkJ6_266 ?_
  refine e_iand dJ6_bitCount_0f7a4_14 ?_
  refine e_iload_n dJ6_bitCount_0f7a4_15 rfl ?_
  refine e_iconst (v := 2) dJ6_bitCount_0f7a4_16 rfl ?_
  refine e_iushr dJ6_bitCount_0f7a4_17 ?_
  refine e_ldcw dJ6_bitCount_0f7a4_18 kkJ6_266 ?_
  refine e_iand dJ6_bitCount_0f7a4_21 ?_
  refine e_iadd dJ6_bitCount_0f7a4_22 ?_
  refine e_istore_n (L' := [some (.int (((x - (((x.toUInt32 >>> ((1 : Int32).toUInt32 &&& Int32.toUInt32 31)).toInt32) &&& 1431655765)) &&& 858993459) + ((((x - (((x.toUInt32 >>> ((1 : Int32).toUInt32 &&& Int32.toUInt32 31)).toInt32) &&& 1431655765)).toUInt32 >>> ((2 : Int32).toUInt32 &&& Int32.toUInt32 31)).toInt32) &&& 858993459)))]) dJ6_bitCount_0f7a4_23 (Nat.le_of_ble_eq_true rfl) (Nat.le_of_ble_eq_true rfl) (fun j h => absurd h (Nat.succ_ne_zero j)) rfl ?_
  refine e_iload_n dJ6_bitCount_0f7a4_24 rfl ?_
  refine e_iload_n dJ6_bitCount_0f7a4_25 rfl ?_
  refine e_iconst (v := 4) dJ6_bitCount_0f7a4_26 rfl ?_
  refine e_iushr dJ6_bitCount_0f7a4_27 ?_
  refine e_iadd dJ6_bitCount_0f7a4_28 ?_
  refine e_ldcw dJ6_bitCount_0f7a4_29 kkJ6_267 ?_
  refine e_iand dJ6_bitCount_0f7a4_32 ?_
  refine e_istore_n (L' := [some (.int (((((x - (((x.toUInt32 >>> ((1 : Int32).toUInt32 &&& Int32.toUInt32 31)).toInt32) &&& 1431655765)) &&& 858993459) + ((((x - (((x.toUInt32 >>> ((1 : Int32).toUInt32 &&& Int32.toUInt32 31)).toInt32) &&& 1431655765)).toUInt32 >>> ((2 : Int32).toUInt32 &&& Int32.toUInt32 31)).toInt32) &&& 858993459)) + (((((x - (((x.toUInt32 >>> ((1 : Int32).toUInt32 &&& Int32.toUInt32 31)).toInt32) &&& 1431655765)) &&& 858993459) + ((((x - (((x.toUInt32 >>> ((1 : Int32).toUInt32 &&& Int32.toUInt32 31)).toInt32) &&& 1431655765)).toUInt32 >>> ((2 : Int32).toUInt32 &&& Int32.toUInt32 31)).toInt32) &&& 858993459)).toUInt32 >>> ((4 : Int32).toUInt32 &&& Int32.toUInt32 31)).toInt32)) &&& 252645135))]) dJ6_bitCount_0f7a4_33 (Nat.le_of_ble_eq_true rfl) (Nat.le_of_ble_eq_true rfl) (fun j h => absurd h (Nat.succ_ne_zero j)) rfl ?_
  refine e_iload_n dJ6_bitCount_0f7a4_34 rfl ?_
  refine e_iload_n dJ6_bitCount_0f7a4_35 rfl ?_
  refine e_bipush (v := 8) dJ6_bitCount_0f7a4_36 rfl ?_
  refine e_iushr dJ6_bitCount_0f7a4_38 ?_
  refine e_iadd dJ6_bitCount_0f7a4_39 ?_
  refine e_istore_n (L' := [some (.int ((((((x - (((x.toUInt32 >>> ((1 : Int32).toUInt32 &&& Int32.toUInt32 31)).toInt32) &&& 1431655765)) &&& 858993459) + ((((x - (((x.toUInt32 >>> ((1 : Int32).toUInt32 &&& Int32.toUInt32 31)).toInt32) &&& 1431655765)).toUInt32 >>> ((2 : Int32).toUInt32 &&& Int32.toUInt32 31)).toInt32) &&& 858993459)) + (((((x - (((x.toUInt32 >>> ((1 : Int32).toUInt32 &&& Int32.toUInt32 31)).toInt32) &&& 1431655765)) &&& 858993459) + ((((x - (((x.toUInt32 >>> ((1 : Int32).toUInt32 &&& Int32.toUInt32 31)).toInt32) &&& 1431655765)).toUInt32 >>> ((2 : Int32).toUInt32 &&& Int32.toUInt32 31)).toInt32) &&& 858993459)).toUInt32 >>> ((4 : Int32).toUInt32 &&& Int32.toUInt32 31)).toInt32)) &&& 252645135) + (((((((x - (((x.toUInt32 >>> ((1 : Int32).toUInt32 &&& Int32.toUInt32 31)).toInt32) &&& 1431655765)) &&& 858993459) + ((((x - (((x.toUInt32 >>> ((1 : Int32).toUInt32 &&& Int32.toUInt32 31)).toInt32) &&& 1431655765)).toUInt32 >>> ((2 : Int32).toUInt32 &&& Int32.toUInt32 31)).toInt32) &&& 858993459)) + (((((x - (((x.toUInt32 >>> ((1 : Int32).toUInt32 &&& Int32.toUInt32 31)).toInt32) &&& 1431655765)) &&& 858993459) + ((((x - (((x.toUInt32 >>> ((1 : Int32).toUInt32 &&& Int32.toUInt32 31)).toInt32) &&& 1431655765)).toUInt32 >>> ((2 : Int32).toUInt32 &&& Int32.toUInt32 31)).toInt32) &&& 858993459)).toUInt32 >>> ((4 : Int32).toUInt32 &&& Int32.toUInt32 31)).toInt32)) &&& 252645135).toUInt32 >>> ((8 : Int32).toUInt32 &&& Int32.toUInt32 31)).toInt32)))]) dJ6_bitCount_0f7a4_40 (Nat.le_of_ble_eq_true rfl) (Nat.le_of_ble_eq_true rfl) (fun j h => absurd h (Nat.succ_ne_zero j)) rfl ?_
  refine e_iload_n dJ6_bitCount_0f7a4_41 rfl ?_
  refine e_iload_n dJ6_bitCount_0f7a4_42 rfl ?_
  refine e_bipush (v := 16) dJ6_bitCount_0f7a4_43 rfl ?_
  refine e_iushr dJ6_bitCount_0f7a4_45 ?_
  refine e_iadd dJ6_bitCount_0f7a4_46 ?_
  refine e_istore_n (L' := [some (.int (((((((x - (((x.toUInt32 >>> ((1 : Int32).toUInt32 &&& Int32.toUInt32 31)).toInt32) &&& 1431655765)) &&& 858993459) + ((((x - (((x.toUInt32 >>> ((1 : Int32).toUInt32 &&& Int32.toUInt32 31)).toInt32) &&& 1431655765)).toUInt32 >>> ((2 : Int32).toUInt32 &&& Int32.toUInt32 31)).toInt32) &&& 858993459)) + (((((x - (((x.toUInt32 >>> ((1 : Int32).toUInt32 &&& Int32.toUInt32 31)).toInt32) &&& 1431655765)) &&& 858993459) + ((((x - (((x.toUInt32 >>> ((1 : Int32).toUInt32 &&& Int32.toUInt32 31)).toInt32) &&& 1431655765)).toUInt32 >>> ((2 : Int32).toUInt32 &&& Int32.toUInt32 31)).toInt32) &&& 858993459)).toUInt32 >>> ((4 : Int32).toUInt32 &&& Int32.toUInt32 31)).toInt32)) &&& 252645135) + (((((((x - (((x.toUInt32 >>> ((1 : Int32).toUInt32 &&& Int32.toUInt32 31)).toInt32) &&& 1431655765)) &&& 858993459) + ((((x - (((x.toUInt32 >>> ((1 : Int32).toUInt32 &&& Int32.toUInt32 31)).toInt32) &&& 1431655765)).toUInt32 >>> ((2 : Int32).toUInt32 &&& Int32.toUInt32 31)).toInt32) &&& 858993459)) + (((((x - (((x.toUInt32 >>> ((1 : Int32).toUInt32 &&& Int32.toUInt32 31)).toInt32) &&& 1431655765)) &&& 858993459) + ((((x - (((x.toUInt32 >>> ((1 : Int32).toUInt32 &&& Int32.toUInt32 31)).toInt32) &&& 1431655765)).toUInt32 >>> ((2 : Int32).toUInt32 &&& Int32.toUInt32 31)).toInt32) &&& 858993459)).toUInt32 >>> ((4 : Int32).toUInt32 &&& Int32.toUInt32 31)).toInt32)) &&& 252645135).toUInt32 >>> ((8 : Int32).toUInt32 &&& Int32.toUInt32 31)).toInt32)) + ((((((((x - (((x.toUInt32 >>> ((1 : Int32).toUInt32 &&& Int32.toUInt32 31)).toInt32) &&& 1431655765)) &&& 858993459) + ((((x - (((x.toUInt32 >>> ((1 : Int32).toUInt32 &&& Int32.toUInt32 31)).toInt32) &&& 1431655765)).toUInt32 >>> ((2 : Int32).toUInt32 &&& Int32.toUInt32 31)).toInt32) &&& 858993459)) + (((((x - (((x.toUInt32 >>> ((1 : Int32).toUInt32 &&& Int32.toUInt32 31)).toInt32) &&& 1431655765)) &&& 858993459) + ((((x - (((x.toUInt32 >>> ((1 : Int32).toUInt32 &&& Int32.toUInt32 31)).toInt32) &&& 1431655765)).toUInt32 >>> ((2 : Int32).toUInt32 &&& Int32.toUInt32 31)).toInt32) &&& 858993459)).toUInt32 >>> ((4 : Int32).toUInt32 &&& Int32.toUInt32 31)).toInt32)) &&& 252645135) + (((((((x - (((x.toUInt32 >>> ((1 : Int32).toUInt32 &&& Int32.toUInt32 31)).toInt32) &&& 1431655765)) &&& 858993459) + ((((x - (((x.toUInt32 >>> ((1 : Int32).toUInt32 &&& Int32.toUInt32 31)).toInt32) &&& 1431655765)).toUInt32 >>> ((2 : Int32).toUInt32 &&& Int32.toUInt32 31)).toInt32) &&& 858993459)) + (((((x - (((x.toUInt32 >>> ((1 : Int32).toUInt32 &&& Int32.toUInt32 31)).toInt32) &&& 1431655765)) &&& 858993459) + ((((x - (((x.toUInt32 >>> ((1 : Int32).toUInt32 &&& Int32.toUInt32 31)).toInt32) &&& 1431655765)).toUInt32 >>> ((2 : Int32).toUInt32 &&& Int32.toUInt32 31)).toInt32) &&& 858993459)).toUInt32 >>> ((4 : Int32).toUInt32 &&& Int32.toUInt32 31)).toInt32)) &&& 252645135).toUInt32 >>> ((8 : Int32).toUInt32 &&& Int32.toUInt32 31)).toInt32)).toUInt32 >>> ((16 : Int32).toUInt32 &&& Int32.toUInt32 31)).toInt32)))]) dJ6_bitCount_0f7a4_47 (Nat.le_of_ble_eq_true rfl) (Nat.le_of_ble_eq_true rfl) (fun j h => absurd h (Nat.succ_ne_zero j)) rfl ?_
  refine e_iload_n dJ6_bitCount_0f7a4_48 rfl ?_
  refine e_bipush (v := 63) dJ6_bitCount_0f7a4_49 rfl ?_
  refine e_iand dJ6_bitCount_0f7a4_51 ?_
  exact e_iret dJ6_bitCount_0f7a4_52 rfl (⟨rfl, rfl⟩)

set_option maxHeartbeats 2000000 in
set_option maxRecDepth 20000 in
theorem s_ntzX (m : jM) (x : Int32) (hx : ntI x ≤ 65536) : iX mInt_numberOfTrailingZeros [.int x] m (fun v m1 => m = m1 ∧ v = ntX x) := by
  refine jX_ofF (L := [some (.int x), none]) 1 rfl rfl (by decide +kernel) rfl ?_
  refine e_iload_n dJ6_numberOfTrailingZeros_0f7a4_0 rfl ?_
  refine e_iconst (v := -1) dJ6_numberOfTrailingZeros_0f7a4_1 rfl ?_
  refine e_ixor dJ6_numberOfTrailingZeros_0f7a4_2 ?_
  refine e_iload_n dJ6_numberOfTrailingZeros_0f7a4_3 rfl ?_
  refine e_iconst (v := 1) dJ6_numberOfTrailingZeros_0f7a4_4 rfl ?_
  refine e_isub dJ6_numberOfTrailingZeros_0f7a4_5 ?_
  refine e_iand dJ6_numberOfTrailingZeros_0f7a4_6 ?_
  rw [show (x ^^^ (-1)) &&& (x - 1) = ntI x from rfl]
  refine e_istore_n (L' := [some (.int (ntI x)), none]) dJ6_numberOfTrailingZeros_0f7a4_7 (Nat.le_of_ble_eq_true rfl) (Nat.le_of_ble_eq_true rfl) (fun j h => absurd h (Nat.succ_ne_zero j)) rfl ?_
  refine e_iload_n dJ6_numberOfTrailingZeros_0f7a4_8 rfl ?_
  refine e_if_gt 17 dJ6_numberOfTrailingZeros_0f7a4_9 (by decide) (fun c9 => ?_) (fun c9 => ?_)
  · refine e_iconst (v := 1) dJ6_numberOfTrailingZeros_0f7a4_17 rfl ?_
    refine e_istore_n (L' := [some (.int (ntI x)), some (.int 1)]) dJ6_numberOfTrailingZeros_0f7a4_18 (Nat.le_of_ble_eq_true rfl) (Nat.le_of_ble_eq_true rfl) (jnl_at (i := 0) rfl) rfl ?_
    refine e_iload_n dJ6_numberOfTrailingZeros_0f7a4_19 rfl ?_
    refine e_ldcw dJ6_numberOfTrailingZeros_0f7a4_20 kkJ6_264 ?_
    refine e_icmp_le 34 dJ6_numberOfTrailingZeros_0f7a4_23 (by decide) (fun c23 => ?_) (fun h => absurd hx h)
    refine e_iload_n dJ6_numberOfTrailingZeros_0f7a4_34 rfl ?_
    refine e_sipush (v := 256) dJ6_numberOfTrailingZeros_0f7a4_35 rfl ?_
    refine e_icmp_le 49 dJ6_numberOfTrailingZeros_0f7a4_38 (by decide) (fun c38 => ?_) (fun c38 => ?_)
    · refine e_iload_n dJ6_numberOfTrailingZeros_0f7a4_49 rfl ?_
      refine e_bipush (v := 16) dJ6_numberOfTrailingZeros_0f7a4_50 rfl ?_
      refine e_icmp_le 62 dJ6_numberOfTrailingZeros_0f7a4_52 (by decide) (fun c52 => ?_) (fun c52 => ?_)
      · refine e_iload_n dJ6_numberOfTrailingZeros_0f7a4_62 rfl ?_
        refine e_iconst (v := 4) dJ6_numberOfTrailingZeros_0f7a4_63 rfl ?_
        refine e_icmp_le 74 dJ6_numberOfTrailingZeros_0f7a4_64 (by decide) (fun c64 => ?_) (fun c64 => ?_)
        · refine e_iload_n dJ6_numberOfTrailingZeros_0f7a4_74 rfl ?_
          refine e_iload_n dJ6_numberOfTrailingZeros_0f7a4_75 rfl ?_
          refine e_iconst (v := 1) dJ6_numberOfTrailingZeros_0f7a4_76 rfl ?_
          refine e_iushr dJ6_numberOfTrailingZeros_0f7a4_77 ?_
          refine e_iadd dJ6_numberOfTrailingZeros_0f7a4_78 ?_
          exact e_iret dJ6_numberOfTrailingZeros_0f7a4_79 rfl (⟨rfl, by simp only [ntX, ntS1, ntU, *, ↓reduceIte] <;> rfl⟩)
        · refine e_iinc (v := 3) (L' := [some (.int (ntI x)), some (.int 3)]) dJ6_numberOfTrailingZeros_0f7a4_67 rfl (by decide) (by decide) (jnl_at (i := 0) rfl) rfl ?_
          refine e_iload_n dJ6_numberOfTrailingZeros_0f7a4_70 rfl ?_
          refine e_iconst (v := 2) dJ6_numberOfTrailingZeros_0f7a4_71 rfl ?_
          refine e_iushr dJ6_numberOfTrailingZeros_0f7a4_72 ?_
          refine e_istore_n (L' := [some (.int (((ntI x).toUInt32 >>> ((2 : Int32).toUInt32 &&& Int32.toUInt32 31)).toInt32)), some (.int 3)]) dJ6_numberOfTrailingZeros_0f7a4_73 (Nat.le_of_ble_eq_true rfl) (Nat.le_of_ble_eq_true rfl) (fun j h => absurd h (Nat.succ_ne_zero j)) rfl ?_
          refine e_iload_n dJ6_numberOfTrailingZeros_0f7a4_74 rfl ?_
          refine e_iload_n dJ6_numberOfTrailingZeros_0f7a4_75 rfl ?_
          refine e_iconst (v := 1) dJ6_numberOfTrailingZeros_0f7a4_76 rfl ?_
          refine e_iushr dJ6_numberOfTrailingZeros_0f7a4_77 ?_
          refine e_iadd dJ6_numberOfTrailingZeros_0f7a4_78 ?_
          exact e_iret dJ6_numberOfTrailingZeros_0f7a4_79 rfl (⟨rfl, by simp only [ntX, ntS1, ntU, *, ↓reduceIte] <;> rfl⟩)
      · refine e_iinc (v := 5) (L' := [some (.int (ntI x)), some (.int 5)]) dJ6_numberOfTrailingZeros_0f7a4_55 rfl (by decide) (by decide) (jnl_at (i := 0) rfl) rfl ?_
        refine e_iload_n dJ6_numberOfTrailingZeros_0f7a4_58 rfl ?_
        refine e_iconst (v := 4) dJ6_numberOfTrailingZeros_0f7a4_59 rfl ?_
        refine e_iushr dJ6_numberOfTrailingZeros_0f7a4_60 ?_
        refine e_istore_n (L' := [some (.int (((ntI x).toUInt32 >>> ((4 : Int32).toUInt32 &&& Int32.toUInt32 31)).toInt32)), some (.int 5)]) dJ6_numberOfTrailingZeros_0f7a4_61 (Nat.le_of_ble_eq_true rfl) (Nat.le_of_ble_eq_true rfl) (fun j h => absurd h (Nat.succ_ne_zero j)) rfl ?_
        refine e_iload_n dJ6_numberOfTrailingZeros_0f7a4_62 rfl ?_
        refine e_iconst (v := 4) dJ6_numberOfTrailingZeros_0f7a4_63 rfl ?_
        refine e_icmp_le 74 dJ6_numberOfTrailingZeros_0f7a4_64 (by decide) (fun c64 => ?_) (fun c64 => ?_)
        · refine e_iload_n dJ6_numberOfTrailingZeros_0f7a4_74 rfl ?_
          refine e_iload_n dJ6_numberOfTrailingZeros_0f7a4_75 rfl ?_
          refine e_iconst (v := 1) dJ6_numberOfTrailingZeros_0f7a4_76 rfl ?_
          refine e_iushr dJ6_numberOfTrailingZeros_0f7a4_77 ?_
          refine e_iadd dJ6_numberOfTrailingZeros_0f7a4_78 ?_
          exact e_iret dJ6_numberOfTrailingZeros_0f7a4_79 rfl (⟨rfl, by simp only [ntX, ntS1, ntU, *, ↓reduceIte] <;> rfl⟩)
        · refine e_iinc (v := 7) (L' := [some (.int (((ntI x).toUInt32 >>> ((4 : Int32).toUInt32 &&& Int32.toUInt32 31)).toInt32)), some (.int 7)]) dJ6_numberOfTrailingZeros_0f7a4_67 rfl (by decide) (by decide) (jnl_at (i := 0) rfl) rfl ?_
          refine e_iload_n dJ6_numberOfTrailingZeros_0f7a4_70 rfl ?_
          refine e_iconst (v := 2) dJ6_numberOfTrailingZeros_0f7a4_71 rfl ?_
          refine e_iushr dJ6_numberOfTrailingZeros_0f7a4_72 ?_
          refine e_istore_n (L' := [some (.int (((((ntI x).toUInt32 >>> ((4 : Int32).toUInt32 &&& Int32.toUInt32 31)).toInt32).toUInt32 >>> ((2 : Int32).toUInt32 &&& Int32.toUInt32 31)).toInt32)), some (.int 7)]) dJ6_numberOfTrailingZeros_0f7a4_73 (Nat.le_of_ble_eq_true rfl) (Nat.le_of_ble_eq_true rfl) (fun j h => absurd h (Nat.succ_ne_zero j)) rfl ?_
          refine e_iload_n dJ6_numberOfTrailingZeros_0f7a4_74 rfl ?_
          refine e_iload_n dJ6_numberOfTrailingZeros_0f7a4_75 rfl ?_
          refine e_iconst (v := 1) dJ6_numberOfTrailingZeros_0f7a4_76 rfl ?_
          refine e_iushr dJ6_numberOfTrailingZeros_0f7a4_77 ?_
          refine e_iadd dJ6_numberOfTrailingZeros_0f7a4_78 ?_
          exact e_iret dJ6_numberOfTrailingZeros_0f7a4_79 rfl (⟨rfl, by simp only [ntX, ntS1, ntU, *, ↓reduceIte] <;> rfl⟩)
    · refine e_iinc (v := 9) (L' := [some (.int (ntI x)), some (.int 9)]) dJ6_numberOfTrailingZeros_0f7a4_41 rfl (by decide) (by decide) (jnl_at (i := 0) rfl) rfl ?_
      refine e_iload_n dJ6_numberOfTrailingZeros_0f7a4_44 rfl ?_
      refine e_bipush (v := 8) dJ6_numberOfTrailingZeros_0f7a4_45 rfl ?_
      refine e_iushr dJ6_numberOfTrailingZeros_0f7a4_47 ?_
      refine e_istore_n (L' := [some (.int (((ntI x).toUInt32 >>> ((8 : Int32).toUInt32 &&& Int32.toUInt32 31)).toInt32)), some (.int 9)]) dJ6_numberOfTrailingZeros_0f7a4_48 (Nat.le_of_ble_eq_true rfl) (Nat.le_of_ble_eq_true rfl) (fun j h => absurd h (Nat.succ_ne_zero j)) rfl ?_
      refine e_iload_n dJ6_numberOfTrailingZeros_0f7a4_49 rfl ?_
      refine e_bipush (v := 16) dJ6_numberOfTrailingZeros_0f7a4_50 rfl ?_
      refine e_icmp_le 62 dJ6_numberOfTrailingZeros_0f7a4_52 (by decide) (fun c52 => ?_) (fun c52 => ?_)
      · refine e_iload_n dJ6_numberOfTrailingZeros_0f7a4_62 rfl ?_
        refine e_iconst (v := 4) dJ6_numberOfTrailingZeros_0f7a4_63 rfl ?_
        refine e_icmp_le 74 dJ6_numberOfTrailingZeros_0f7a4_64 (by decide) (fun c64 => ?_) (fun c64 => ?_)
        · refine e_iload_n dJ6_numberOfTrailingZeros_0f7a4_74 rfl ?_
          refine e_iload_n dJ6_numberOfTrailingZeros_0f7a4_75 rfl ?_
          refine e_iconst (v := 1) dJ6_numberOfTrailingZeros_0f7a4_76 rfl ?_
          refine e_iushr dJ6_numberOfTrailingZeros_0f7a4_77 ?_
          refine e_iadd dJ6_numberOfTrailingZeros_0f7a4_78 ?_
          exact e_iret dJ6_numberOfTrailingZeros_0f7a4_79 rfl (⟨rfl, by simp only [ntX, ntS1, ntU, *, ↓reduceIte] <;> rfl⟩)
        · refine e_iinc (v := 11) (L' := [some (.int (((ntI x).toUInt32 >>> ((8 : Int32).toUInt32 &&& Int32.toUInt32 31)).toInt32)), some (.int 11)]) dJ6_numberOfTrailingZeros_0f7a4_67 rfl (by decide) (by decide) (jnl_at (i := 0) rfl) rfl ?_
          refine e_iload_n dJ6_numberOfTrailingZeros_0f7a4_70 rfl ?_
          refine e_iconst (v := 2) dJ6_numberOfTrailingZeros_0f7a4_71 rfl ?_
          refine e_iushr dJ6_numberOfTrailingZeros_0f7a4_72 ?_
          refine e_istore_n (L' := [some (.int (((((ntI x).toUInt32 >>> ((8 : Int32).toUInt32 &&& Int32.toUInt32 31)).toInt32).toUInt32 >>> ((2 : Int32).toUInt32 &&& Int32.toUInt32 31)).toInt32)), some (.int 11)]) dJ6_numberOfTrailingZeros_0f7a4_73 (Nat.le_of_ble_eq_true rfl) (Nat.le_of_ble_eq_true rfl) (fun j h => absurd h (Nat.succ_ne_zero j)) rfl ?_
          refine e_iload_n dJ6_numberOfTrailingZeros_0f7a4_74 rfl ?_
          refine e_iload_n dJ6_numberOfTrailingZeros_0f7a4_75 rfl ?_
          refine e_iconst (v := 1) dJ6_numberOfTrailingZeros_0f7a4_76 rfl ?_
          refine e_iushr dJ6_numberOfTrailingZeros_0f7a4_77 ?_
          refine e_iadd dJ6_numberOfTrailingZeros_0f7a4_78 ?_
          exact e_iret dJ6_numberOfTrailingZeros_0f7a4_79 rfl (⟨rfl, by simp only [ntX, ntS1, ntU, *, ↓reduceIte] <;> rfl⟩)
      · refine e_iinc (v := 13) (L' := [some (.int (((ntI x).toUInt32 >>> ((8 : Int32).toUInt32 &&& Int32.toUInt32 31)).toInt32)), some (.int 13)]) dJ6_numberOfTrailingZeros_0f7a4_55 rfl (by decide) (by decide) (jnl_at (i := 0) rfl) rfl ?_
        refine e_iload_n dJ6_numberOfTrailingZeros_0f7a4_58 rfl ?_
        refine e_iconst (v := 4) dJ6_numberOfTrailingZeros_0f7a4_59 rfl ?_
        refine e_iushr dJ6_numberOfTrailingZeros_0f7a4_60 ?_
        refine e_istore_n (L' := [some (.int (((((ntI x).toUInt32 >>> ((8 : Int32).toUInt32 &&& Int32.toUInt32 31)).toInt32).toUInt32 >>> ((4 : Int32).toUInt32 &&& Int32.toUInt32 31)).toInt32)), some (.int 13)]) dJ6_numberOfTrailingZeros_0f7a4_61 (Nat.le_of_ble_eq_true rfl) (Nat.le_of_ble_eq_true rfl) (fun j h => absurd h (Nat.succ_ne_zero j)) rfl ?_
        refine e_iload_n dJ6_numberOfTrailingZeros_0f7a4_62 rfl ?_
        refine e_iconst (v := 4) dJ6_numberOfTrailingZeros_0f7a4_63 rfl ?_
        refine e_icmp_le 74 dJ6_numberOfTrailingZeros_0f7a4_64 (by decide) (fun c64 => ?_) (fun c64 => ?_)
        · refine e_iload_n dJ6_numberOfTrailingZeros_0f7a4_74 rfl ?_
          refine e_iload_n dJ6_numberOfTrailingZeros_0f7a4_75 rfl ?_
          refine e_iconst (v := 1) dJ6_numberOfTrailingZeros_0f7a4_76 rfl ?_
          refine e_iushr dJ6_numberOfTrailingZeros_0f7a4_77 ?_
          refine e_iadd dJ6_numberOfTrailingZeros_0f7a4_78 ?_
          exact e_iret dJ6_numberOfTrailingZeros_0f7a4_79 rfl (⟨rfl, by simp only [ntX, ntS1, ntU, *, ↓reduceIte] <;> rfl⟩)
        · refine e_iinc (v := 15) (L' := [some (.int (((((ntI x).toUInt32 >>> ((8 : Int32).toUInt32 &&& Int32.toUInt32 31)).toInt32).toUInt32 >>> ((4 : Int32).toUInt32 &&& Int32.toUInt32 31)).toInt32)), some (.int 15)]) dJ6_numberOfTrailingZeros_0f7a4_67 rfl (by decide) (by decide) (jnl_at (i := 0) rfl) rfl ?_
          refine e_iload_n dJ6_numberOfTrailingZeros_0f7a4_70 rfl ?_
          refine e_iconst (v := 2) dJ6_numberOfTrailingZeros_0f7a4_71 rfl ?_
          refine e_iushr dJ6_numberOfTrailingZeros_0f7a4_72 ?_
          refine e_istore_n (L' := [some (.int (((((((ntI x).toUInt32 >>> ((8 : Int32).toUInt32 &&& Int32.toUInt32 31)).toInt32).toUInt32 >>> ((4 : Int32).toUInt32 &&& Int32.toUInt32 31)).toInt32).toUInt32 >>> ((2 : Int32).toUInt32 &&& Int32.toUInt32 31)).toInt32)), some (.int 15)]) dJ6_numberOfTrailingZeros_0f7a4_73 (Nat.le_of_ble_eq_true rfl) (Nat.le_of_ble_eq_true rfl) (fun j h => absurd h (Nat.succ_ne_zero j)) rfl ?_
          refine e_iload_n dJ6_numberOfTrailingZeros_0f7a4_74 rfl ?_
          refine e_iload_n dJ6_numberOfTrailingZeros_0f7a4_75 rfl ?_
          refine e_iconst (v := 1) dJ6_numberOfTrailingZeros_0f7a4_76 rfl ?_
          refine e_iushr dJ6_numberOfTrailingZeros_0f7a4_77 ?_
          refine e_iadd dJ6_numberOfTrailingZeros_0f7a4_78 ?_
          exact e_iret dJ6_numberOfTrailingZeros_0f7a4_79 rfl (⟨rfl, by simp only [ntX, ntS1, ntU, *, ↓reduceIte] <;> rfl⟩)
  · refine e_iload_n dJ6_numberOfTrailingZeros_0f7a4_12 rfl ?_
    refine e_bipush (v := 32) dJ6_numberOfTrailingZeros_0f7a4_13 rfl ?_
    refine e_iand dJ6_numberOfTrailingZeros_0f7a4_15 ?_
    exact e_iret dJ6_numberOfTrailingZeros_0f7a4_16 rfl (⟨rfl, by rw [ntX, if_neg c9]⟩)

set_option maxHeartbeats 2000000 in
set_option maxRecDepth 20000 in
theorem s_abs (m : jM) (x : Int32) : iX mMath_abs [.int x] m (fun v m1 => m = m1 ∧ v = if 0 ≤ x then x else -x) := by
  refine jX_ofF (L := [some (.int x)]) 0 rfl rfl (by decide +kernel) rfl ?_
  refine e_iload_n dJ9_abs_0f7a4_0 rfl ?_
  refine e_if_ge 9 dJ9_abs_0f7a4_1 (by decide) (fun c1 => ?_) (fun c1 => ?_)
  · refine e_iload_n dJ9_abs_0f7a4_9 rfl ?_
    exact e_iret dJ9_abs_0f7a4_10 rfl (⟨rfl, by simp only [*, ↓reduceIte]⟩)
  · refine e_iload_n dJ9_abs_0f7a4_4 rfl ?_
    refine e_ineg dJ9_abs_0f7a4_5 ?_
    refine e_goto 10 dJ9_abs_0f7a4_6 (by decide) ?_
    exact e_iret dJ9_abs_0f7a4_10 rfl (⟨rfl, by simp only [*, ↓reduceIte]⟩)

set_option maxHeartbeats 2000000 in
set_option maxRecDepth 20000 in
theorem s_max (m : jM) (x y : Int32) : iX mMath_max [.int x, .int y] m (fun v m1 => m = m1 ∧ v = if x < y then y else x) := by
  refine jX_ofF (L := [some (.int x), some (.int y)]) 0 rfl rfl (by decide +kernel) rfl ?_
  refine e_iload_n dJ9_max_7cf53_0 rfl ?_
  refine e_iload_n dJ9_max_7cf53_1 rfl ?_
  refine e_icmp_lt 9 dJ9_max_7cf53_2 (by decide) (fun c2 => ?_) (fun c2 => ?_)
  · refine e_iload_n dJ9_max_7cf53_9 rfl ?_
    exact e_iret dJ9_max_7cf53_10 rfl (⟨rfl, by simp only [*, ↓reduceIte]⟩)
  · refine e_iload_n dJ9_max_7cf53_5 rfl ?_
    refine e_goto 10 dJ9_max_7cf53_6 (by decide) ?_
    exact e_iret dJ9_max_7cf53_10 rfl (⟨rfl, by simp only [*, ↓reduceIte]⟩)

set_option maxHeartbeats 2000000 in
set_option maxRecDepth 20000 in
theorem s_min (m : jM) (x y : Int32) : iX mMath_min [.int x, .int y] m (fun v m1 => m = m1 ∧ v = if y < x then y else x) := by
  refine jX_ofF (L := [some (.int x), some (.int y)]) 0 rfl rfl (by decide +kernel) rfl ?_
  refine e_iload_n dJ9_min_7cf53_0 rfl ?_
  refine e_iload_n dJ9_min_7cf53_1 rfl ?_
  refine e_icmp_gt 9 dJ9_min_7cf53_2 (by decide) (fun c2 => ?_) (fun c2 => ?_)
  · refine e_iload_n dJ9_min_7cf53_9 rfl ?_
    exact e_iret dJ9_min_7cf53_10 rfl (⟨rfl, by simp only [*, ↓reduceIte]⟩)
  · refine e_iload_n dJ9_min_7cf53_5 rfl ?_
    refine e_goto 10 dJ9_min_7cf53_6 (by decide) ?_
    exact e_iret dJ9_min_7cf53_10 rfl (⟨rfl, by simp only [*, ↓reduceIte]⟩)

set_option maxHeartbeats 2000000 in
set_option maxRecDepth 20000 in
theorem s_fill3 (m : jM) (c : Nat) (hc : jlay c = (0, 3)) (x : Int32) : vX mArr_fill [.ref c, .int x] m (fun m1 => jup m c (va_cpy (fun _ => x) (m c) 0 0 3) = m1) := by
  refine jX_ofF (L := [some (.ref c), some (.int x), none, none]) 2 rfl rfl (by decide +kernel) rfl ?_
  refine e_iconst (v := 0) dJ7_fill_53178_0 rfl ?_
  refine e_istore_n (L' := [some (.ref c), some (.int x), some (.int 0), none]) dJ7_fill_53178_1 (Nat.le_of_ble_eq_true rfl) (Nat.le_of_ble_eq_true rfl) (jnl_at (i := 1) rfl) rfl ?_
  refine e_aload_n dJ7_fill_53178_2 rfl ?_
  refine e_alen dJ7_fill_53178_3 hc ?_
  refine e_istore_n (L' := [some (.ref c), some (.int x), some (.int 0), some (.int (nI 3))]) dJ7_fill_53178_4 (Nat.le_of_ble_eq_true rfl) (Nat.le_of_ble_eq_true rfl) (jnl_at (i := 2) rfl) rfl ?_
  refine e_loop 5 3 (fun k => [some (.ref c), some (.int x), some (.int (nI k)), some (.int (nI 3))]) (fun k => jup m c (va_cpy (fun _ => x) (m c) 0 0 k)) 0 (Nat.zero_le _) rfl (by rw [cpy_0, jup_id]) ?_ ?_
  · show jE _ _ 5 [some (.ref c), some (.int x), some (.int (nI 3)), some (.int (nI 3))] [] (jup m c (va_cpy (fun _ => x) (m c) 0 0 3))
    obtain ⟨mz, hmz⟩ : ∃ y : jM, y = jup m c (va_cpy (fun _ => x) (m c) 0 0 3) := ⟨_, rfl⟩
    refine e_start rfl hmz.symm ?_
    refine e_iload_n dJ7_fill_53178_5 rfl ?_
    refine e_iload_n dJ7_fill_53178_6 rfl ?_
    refine e_icmp_ge 20 dJ7_fill_53178_7 (by decide) (fun c7 => ?_) (fun h => absurd (j_done rfl rfl) h)
    exact e_vret dJ7_fill_53178_20 rfl (hmz.symm)
  · intro k hk ih
    show jE _ _ 5 [some (.ref c), some (.int x), some (.int (nI k)), some (.int (nI 3))] [] (jup m c (va_cpy (fun _ => x) (m c) 0 0 k))
    obtain ⟨mb, hmb⟩ : ∃ y : jM, y = jup m c (va_cpy (fun _ => x) (m c) 0 0 k) := ⟨_, rfl⟩
    refine e_start rfl hmb.symm ?_
    refine e_iload_n dJ7_fill_53178_5 rfl ?_
    refine e_iload_n dJ7_fill_53178_6 rfl ?_
    refine e_icmp_ge 20 dJ7_fill_53178_7 (by decide) (fun h => absurd h (j_more (N := 3) rfl rfl (by omega) (by omega))) (fun c7 => ?_)
    refine e_aload_n dJ7_fill_53178_10 rfl ?_
    refine e_iload_n dJ7_fill_53178_11 rfl ?_
    refine e_iload_n dJ7_fill_53178_12 rfl ?_
    refine e_iast dJ7_fill_53178_13 hc k rfl (by omega) (by decide) (fun m1 hm1 => ?_)
    refine e_iinc (v := nI (k + 1)) (L' := [some (.ref c), some (.int x), some (.int (nI (k + 1))), some (.int (nI 3))]) dJ7_fill_53178_14 rfl (j_inc rfl) (by decide) (jnl_at (i := 1) rfl) rfl ?_
    refine e_goto 5 dJ7_fill_53178_17 (by decide) ?_
    refine e_start rfl ?_ ih
    rw [hm1, hmb, jup_s, jup_jup]
    exact congrArg (jup _ c) (cpy_s0' rfl)

set_option maxHeartbeats 2000000 in
set_option maxRecDepth 20000 in
theorem s_fill5 (m : jM) (c : Nat) (hc : jlay c = (0, 5)) (x : Int32) : vX mArr_fill [.ref c, .int x] m (fun m1 => jup m c (va_cpy (fun _ => x) (m c) 0 0 5) = m1) := by
  refine jX_ofF (L := [some (.ref c), some (.int x), none, none]) 2 rfl rfl (by decide +kernel) rfl ?_
  refine e_iconst (v := 0) dJ7_fill_53178_0 rfl ?_
  refine e_istore_n (L' := [some (.ref c), some (.int x), some (.int 0), none]) dJ7_fill_53178_1 (Nat.le_of_ble_eq_true rfl) (Nat.le_of_ble_eq_true rfl) (jnl_at (i := 1) rfl) rfl ?_
  refine e_aload_n dJ7_fill_53178_2 rfl ?_
  refine e_alen dJ7_fill_53178_3 hc ?_
  refine e_istore_n (L' := [some (.ref c), some (.int x), some (.int 0), some (.int (nI 5))]) dJ7_fill_53178_4 (Nat.le_of_ble_eq_true rfl) (Nat.le_of_ble_eq_true rfl) (jnl_at (i := 2) rfl) rfl ?_
  refine e_loop 5 5 (fun k => [some (.ref c), some (.int x), some (.int (nI k)), some (.int (nI 5))]) (fun k => jup m c (va_cpy (fun _ => x) (m c) 0 0 k)) 0 (Nat.zero_le _) rfl (by rw [cpy_0, jup_id]) ?_ ?_
  · show jE _ _ 5 [some (.ref c), some (.int x), some (.int (nI 5)), some (.int (nI 5))] [] (jup m c (va_cpy (fun _ => x) (m c) 0 0 5))
    obtain ⟨mz, hmz⟩ : ∃ y : jM, y = jup m c (va_cpy (fun _ => x) (m c) 0 0 5) := ⟨_, rfl⟩
    refine e_start rfl hmz.symm ?_
    refine e_iload_n dJ7_fill_53178_5 rfl ?_
    refine e_iload_n dJ7_fill_53178_6 rfl ?_
    refine e_icmp_ge 20 dJ7_fill_53178_7 (by decide) (fun c7 => ?_) (fun h => absurd (j_done rfl rfl) h)
    exact e_vret dJ7_fill_53178_20 rfl (hmz.symm)
  · intro k hk ih
    show jE _ _ 5 [some (.ref c), some (.int x), some (.int (nI k)), some (.int (nI 5))] [] (jup m c (va_cpy (fun _ => x) (m c) 0 0 k))
    obtain ⟨mb, hmb⟩ : ∃ y : jM, y = jup m c (va_cpy (fun _ => x) (m c) 0 0 k) := ⟨_, rfl⟩
    refine e_start rfl hmb.symm ?_
    refine e_iload_n dJ7_fill_53178_5 rfl ?_
    refine e_iload_n dJ7_fill_53178_6 rfl ?_
    refine e_icmp_ge 20 dJ7_fill_53178_7 (by decide) (fun h => absurd h (j_more (N := 5) rfl rfl (by omega) (by omega))) (fun c7 => ?_)
    refine e_aload_n dJ7_fill_53178_10 rfl ?_
    refine e_iload_n dJ7_fill_53178_11 rfl ?_
    refine e_iload_n dJ7_fill_53178_12 rfl ?_
    refine e_iast dJ7_fill_53178_13 hc k rfl (by omega) (by decide) (fun m1 hm1 => ?_)
    refine e_iinc (v := nI (k + 1)) (L' := [some (.ref c), some (.int x), some (.int (nI (k + 1))), some (.int (nI 5))]) dJ7_fill_53178_14 rfl (j_inc rfl) (by decide) (jnl_at (i := 1) rfl) rfl ?_
    refine e_goto 5 dJ7_fill_53178_17 (by decide) ?_
    refine e_start rfl ?_ ih
    rw [hm1, hmb, jup_s, jup_jup]
    exact congrArg (jup _ c) (cpy_s0' rfl)

set_option maxHeartbeats 2000000 in
set_option maxRecDepth 20000 in
theorem s_fill40 (m : jM) (c : Nat) (hc : jlay c = (0, 40)) (x : Int32) : vX mArr_fill [.ref c, .int x] m (fun m1 => jup m c (va_cpy (fun _ => x) (m c) 0 0 40) = m1) := by
  refine jX_ofF (L := [some (.ref c), some (.int x), none, none]) 2 rfl rfl (by decide +kernel) rfl ?_
  refine e_iconst (v := 0) dJ7_fill_53178_0 rfl ?_
  refine e_istore_n (L' := [some (.ref c), some (.int x), some (.int 0), none]) dJ7_fill_53178_1 (Nat.le_of_ble_eq_true rfl) (Nat.le_of_ble_eq_true rfl) (jnl_at (i := 1) rfl) rfl ?_
  refine e_aload_n dJ7_fill_53178_2 rfl ?_
  refine e_alen dJ7_fill_53178_3 hc ?_
  refine e_istore_n (L' := [some (.ref c), some (.int x), some (.int 0), some (.int (nI 40))]) dJ7_fill_53178_4 (Nat.le_of_ble_eq_true rfl) (Nat.le_of_ble_eq_true rfl) (jnl_at (i := 2) rfl) rfl ?_
  refine e_loop 5 40 (fun k => [some (.ref c), some (.int x), some (.int (nI k)), some (.int (nI 40))]) (fun k => jup m c (va_cpy (fun _ => x) (m c) 0 0 k)) 0 (Nat.zero_le _) rfl (by rw [cpy_0, jup_id]) ?_ ?_
  · show jE _ _ 5 [some (.ref c), some (.int x), some (.int (nI 40)), some (.int (nI 40))] [] (jup m c (va_cpy (fun _ => x) (m c) 0 0 40))
    obtain ⟨mz, hmz⟩ : ∃ y : jM, y = jup m c (va_cpy (fun _ => x) (m c) 0 0 40) := ⟨_, rfl⟩
    refine e_start rfl hmz.symm ?_
    refine e_iload_n dJ7_fill_53178_5 rfl ?_
    refine e_iload_n dJ7_fill_53178_6 rfl ?_
    refine e_icmp_ge 20 dJ7_fill_53178_7 (by decide) (fun c7 => ?_) (fun h => absurd (j_done rfl rfl) h)
    exact e_vret dJ7_fill_53178_20 rfl (hmz.symm)
  · intro k hk ih
    show jE _ _ 5 [some (.ref c), some (.int x), some (.int (nI k)), some (.int (nI 40))] [] (jup m c (va_cpy (fun _ => x) (m c) 0 0 k))
    obtain ⟨mb, hmb⟩ : ∃ y : jM, y = jup m c (va_cpy (fun _ => x) (m c) 0 0 k) := ⟨_, rfl⟩
    refine e_start rfl hmb.symm ?_
    refine e_iload_n dJ7_fill_53178_5 rfl ?_
    refine e_iload_n dJ7_fill_53178_6 rfl ?_
    refine e_icmp_ge 20 dJ7_fill_53178_7 (by decide) (fun h => absurd h (j_more (N := 40) rfl rfl (by omega) (by omega))) (fun c7 => ?_)
    refine e_aload_n dJ7_fill_53178_10 rfl ?_
    refine e_iload_n dJ7_fill_53178_11 rfl ?_
    refine e_iload_n dJ7_fill_53178_12 rfl ?_
    refine e_iast dJ7_fill_53178_13 hc k rfl (by omega) (by decide) (fun m1 hm1 => ?_)
    refine e_iinc (v := nI (k + 1)) (L' := [some (.ref c), some (.int x), some (.int (nI (k + 1))), some (.int (nI 40))]) dJ7_fill_53178_14 rfl (j_inc rfl) (by decide) (jnl_at (i := 1) rfl) rfl ?_
    refine e_goto 5 dJ7_fill_53178_17 (by decide) ?_
    refine e_start rfl ?_ ih
    rw [hm1, hmb, jup_s, jup_jup]
    exact congrArg (jup _ c) (cpy_s0' rfl)
