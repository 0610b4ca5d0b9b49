/-! a bar is sung; windows; counts -/
def nt3 (a b c : Int32) : Nat → Int32 := fun j => if j = 0 then a else if j = 1 then b else c
def barO (v : Nat → Int32) (V s : Nat) : Prop := inN (v s) 8 ∧ (s < V ∨ 7 ≤ v s)
def canA (st v : Nat → Int32) (V : Nat) : Nat → Bool
  | 0 => true
  | k + 1 => canA st v V k && (decide (V ≤ k) || canB st k (v k))
theorem canA_t {st v : Nat → Int32} {V k : Nat} (h : V ≤ k ∨ canB st k (v k) = true) : canA st v V (k + 1) = canA st v V k := by
  show (_ && _) = _
  have : (decide (V ≤ k) || canB st k (v k)) = true := by
    rcases h with h | h
    · rw [decide_eq_true h]; rfl
    · rw [h]; exact Bool.or_true _
  rw [this, Bool.and_true]
theorem canA_f {st v : Nat → Int32} {V k : Nat} (h1 : k < V) (h2 : ¬ canB st k (v k) = true) : canA st v V (k + 1) = false := by
  show (_ && _) = _
  rw [decide_eq_false (by omega), Bool.eq_false_iff.mpr h2]
  exact Bool.and_false _
def rowsN (sz : Nat → Int32) : Nat → Nat
  | 0 => 0
  | k + 1 => rowsN sz k + (if 0 ≤ sz k then 1 else 0)
def cntV (m : jM) (P : Nat) (w : Int32) : Int32 := if w = 0 then nI (rowsN (m 100) 8) else if w = 1 then m 102 1 else if w = 2 then m 102 2 else if w = 3 then m 102 3 else if w = 4 then m 102 0 else if w = 5 then setB (m 102) P else if w = 6 then m 98 18 else if w = 7 then m 98 8 else -1000001
theorem bI_s {x : Int32} : ∀ s, s < 3 → x >>> (nI s &&& 31) = x >>> (nI s &&& 31) := fun _ _ => rfl
set_option maxHeartbeats 2000000 in
set_option maxRecDepth 20000 in
theorem s_Dbar_s (m : jM) (a b c : Int32) (ht : m 98 4 = 0) : iX mX4_bar [.ref 98, .int a, .int b, .int c] m (fun v m1 => v = -1000002 ∧ m = m1) := by
  refine jX_of (L := [some (.ref 98), some (.int a), some (.int b), some (.int c), none, none]) 2 rfl rfl (by decide +kernel) rfl ?_
  refine e_aload_n dX4_bar_0 rfl ?_
  refine e_getI dX4_bar_1 lkX4_142 rfl rfl ?_
  rw [show m 98 4 = 0 from ht]
  refine e_if_ne 10 dX4_bar_4 (by decide) (fun h => absurd rfl h) (fun c4 => ?_)
  refine e_ldc dX4_bar_7 kkX4_157 ?_
  exact e_iret dX4_bar_9 rfl (⟨rfl, rfl⟩)

set_option maxHeartbeats 2000000 in
set_option maxRecDepth 20000 in
theorem s_Dbar (m : jM) (V : Nat) (hV : V ≤ 3) (h1 : m 102 1 = nI V) (P : Nat) (hP : P ≤ 5) (h2 : m 102 2 = nI P) (ht : m 98 4 = 1) (n : Nat) (hn24 : n ≤ 24) (hcn : m 98 18 = nI n) (a b c : Int32) : iX mX4_bar [.ref 98, .int a, .int b, .int c] m (fun v m1 => (¬ (∀ s, s < 3 → barO (nt3 a b c) V s) ∧ v = -1000001 ∧ jup m 106 (upd (upd (upd (m 106) 0 a) 1 b) 2 c) = m1) ∨ ((∀ s, s < 3 → barO (nt3 a b c) V s) ∧ canA (m 102) (nt3 a b c) V 3 = false ∧ v = -1000002 ∧ jup m 106 (upd (upd (upd (m 106) 0 a) 1 b) 2 c) = m1) ∨ ((∀ s, s < 3 → barO (nt3 a b c) V s) ∧ canA (m 102) (nt3 a b c) V 3 = true ∧ v = setB (oneB (m 102) (nt3 a b c) V P) P ∧ jup (jst (jup (jup m 106 (upd (upd (upd (m 106) 0 a) 1 b) 2 c)) 107 (noteA (m 107) (m 102) n)) 98 18 (nI (noteN n))) 102 (oneB (m 102) (nt3 a b c) V P) = m1)) := by
  refine jX_of (L := [some (.ref 98), some (.int a), some (.int b), some (.int c), none, none]) 2 rfl rfl (by decide +kernel) rfl ?_
  refine e_aload_n dX4_bar_0 rfl ?_
  refine e_getI dX4_bar_1 lkX4_142 rfl rfl ?_
  rw [show m 98 4 = 1 from ht]
  refine e_if_ne 10 dX4_bar_4 (by decide) (fun c4 => ?_) (fun h => absurd h (by decide))
  refine e_aload_n dX4_bar_10 rfl ?_
  refine e_getR (o := 8) (b := 106) dX4_bar_11 lkX4_31 rfl rfl (by decide) rfl ?_
  refine e_iconst (v := 0) dX4_bar_14 rfl ?_
  refine e_iload_n dX4_bar_15 rfl ?_
  refine e_iast dX4_bar_16 rfl 0 rfl (by decide) (by decide) (fun na hna => ?_)
  refine e_aload_n dX4_bar_17 rfl ?_
  refine e_getR (o := 8) (b := 106) dX4_bar_18 lkX4_31 rfl rfl (by decide) rfl ?_
  refine e_iconst (v := 1) dX4_bar_21 rfl ?_
  refine e_iload_n dX4_bar_22 rfl ?_
  refine e_iast dX4_bar_23 rfl 1 rfl (by decide) (by decide) (fun nb hnb => ?_)
  refine e_aload_n dX4_bar_24 rfl ?_
  refine e_getR (o := 8) (b := 106) dX4_bar_25 lkX4_31 rfl rfl (by decide) rfl ?_
  refine e_iconst (v := 2) dX4_bar_28 rfl ?_
  refine e_iload_n dX4_bar_29 rfl ?_
  refine e_iast dX4_bar_30 rfl 2 rfl (by decide) (by decide) (fun nc hnc => ?_)
  refine e_iconst (v := 1) dX4_bar_31 rfl ?_
  refine e_istore (L' := [some (.ref 98), some (.int a), some (.int b), some (.int c), some (.int 1), none]) dX4_bar_32 (Nat.le_of_ble_eq_true rfl) (Nat.le_of_ble_eq_true rfl) (jnl_at (i := 3) rfl) rfl ?_
  refine e_iconst (v := 0) dX4_bar_34 rfl ?_
  refine e_istore (L' := [some (.ref 98), some (.int a), some (.int b), some (.int c), some (.int 1), some (.int 0)]) dX4_bar_35 (Nat.le_of_ble_eq_true rfl) (Nat.le_of_ble_eq_true rfl) (jnl_at (i := 4) rfl) rfl ?_
  have hnc3 : nc = jup m 106 (upd (upd (upd (m 106) 0 a) 1 b) 2 c) := by rw [hnc, hnb, hna, jup_s, jup_jup, jup_s, jup_jup]
  refine e_loopS (σ := Unit) 37 3 (fun k _ => [some (.ref 98), some (.int a), some (.int b), some (.int c), some (.int (b01 (canA (m 102) (nt3 a b c) V k))), some (.int (nI k))]) (fun k _ mm => mm = jup m 106 (upd (upd (upd (m 106) 0 a) 1 b) 2 c) ∧ ∀ s, s < k → barO (nt3 a b c) V s) 0 () (by decide) rfl (⟨hnc3, fun s hs => absurd hs (Nat.not_lt_zero s)⟩) ?_ ?_
  · intro _ mm hI
    show jE _ _ 37 [some (.ref 98), some (.int a), some (.int b), some (.int c), some (.int (b01 (canA (m 102) (nt3 a b c) V 3))), some (.int (nI 3))] [] mm
    obtain ⟨hI1, hI2⟩ := hI
    have g102 : mm 102 = m 102 := by rw [hI1, jup_n _ _ (by decide)]
    
    refine e_iload dX4_bar_37 rfl ?_
    refine e_iconst (v := 3) dX4_bar_39 rfl ?_
    refine e_icmp_ge 132 dX4_bar_40 (by decide) (fun c40 => ?_) (fun h => absurd (j_done rfl rfl) h)
    refine e_iload dX4_bar_132 rfl ?_
    refine e_if_ne 140 dX4_bar_134 (by decide) (fun c134 => ?_) (fun c134 => ?_)
    · refine e_aload_n dX4_bar_140 rfl ?_
      refine e_callVv (n := 0) mX4_note [] dX4_bar_141 ckX4_161 rfl (by decide +kernel) rfl rfl rfl rfl (Nat.le_of_ble_eq_true rfl) ⟨Nat.zero_le _, Nat.zero_le _⟩ (s_note mm n hn24 (by rw [hI1, jup_n _ _ (by decide)]; exact hcn)) (fun mq hmq => ?_)
      refine e_aload_n dX4_bar_144 rfl ?_
      have k102 : mq 102 = m 102 := by rw [← hmq, jst_n _ _ _ (by decide), jup_n _ _ (by decide), g102]
      have k106 : mq 106 = (upd (upd (upd (m 106) 0 a) 1 b) 2 c) := by rw [← hmq, jst_n _ _ _ (by decide), jup_n _ _ (by decide), hI1, jup_s]
      refine e_callVv (n := 0) mX4_oneBar [] dX4_bar_145 ckX4_164 rfl (by decide +kernel) rfl rfl rfl rfl (Nat.le_of_ble_eq_true rfl) ⟨Nat.zero_le _, Nat.zero_le _⟩ (s_oneBar mq V hV (by rw [k102]; exact h1) P hP (by rw [k102]; exact h2)) (fun mo hmo => ?_)
      refine e_aload_n dX4_bar_148 rfl ?_
      have eO : oneB (mq 102) (mq 106) V P = oneB (m 102) (nt3 a b c) V P := by
        rw [k102, k106]
        refine oneB_congr (fun j hj => ?_)
        have : j = 0 ∨ j = 1 ∨ j = 2 := by omega
        rcases this with rfl | rfl | rfl <;> rfl
      have e102 : mo 102 = oneB (m 102) (nt3 a b c) V P := by rw [← hmo, jup_s, eO]
      refine e_callVi (n := 0) mX4_setPans [] dX4_bar_149 ckX4_167 rfl (by decide +kernel) rfl rfl rfl rfl (Nat.le_of_ble_eq_true rfl) ⟨Nat.zero_le _, Nat.zero_le _⟩ (s_setPans mo P hP (by rw [e102]; exact (oneB_lo hV (by omega) (by decide)).trans h2)) (fun v149 m6 hm6 => ?_)
      obtain ⟨rfl, rfl⟩ := hm6
      exact e_iret dX4_bar_152 rfl (Or.inr (Or.inr ⟨hI2, b01_t c134, by rw [e102], by rw [← hmo, eO, ← hmq, hI1, jup_n _ _ (by decide), jup_n _ _ (by decide)]⟩))
    · refine e_ldc dX4_bar_137 kkX4_157 ?_
      exact e_iret dX4_bar_139 rfl (Or.inr (Or.inl ⟨hI2, b01_f c134, rfl, hI1.symm⟩))
  · intro k hk _ mm hI ih
    show jE _ _ 37 [some (.ref 98), some (.int a), some (.int b), some (.int c), some (.int (b01 (canA (m 102) (nt3 a b c) V k))), some (.int (nI k))] [] mm
    obtain ⟨hI1, hI2⟩ := hI
    have g102 : mm 102 = m 102 := by rw [hI1, jup_n _ _ (by decide)]
    have g106 : mm 106 k = nt3 a b c k := by
      rw [hI1, jup_s]
      have : k = 0 ∨ k = 1 ∨ k = 2 := by omega
      rcases this with rfl | rfl | rfl <;> rfl
    
    refine e_iload dX4_bar_37 rfl ?_
    refine e_iconst (v := 3) dX4_bar_39 rfl ?_
    refine e_icmp_ge 132 dX4_bar_40 (by decide) (fun h => absurd h (j_more (N := 3) rfl rfl (by omega) (by omega))) (fun c40 => ?_)
    refine e_aload_n dX4_bar_43 rfl ?_
    refine e_getR (o := 8) (b := 106) dX4_bar_44 lkX4_31 rfl rfl (by decide) rfl ?_
    refine e_iload dX4_bar_47 rfl ?_
    refine e_iald dX4_bar_49 rfl k rfl (by omega) (by decide) ?_
    rw [show mm 106 k = nt3 a b c k from g106]
    refine e_i2l dX4_bar_50 ?_
    refine e_lconst (v := 0) dX4_bar_51 rfl ?_
    refine e_ldc2 dX4_bar_52 kkX4_58 ?_
    refine e_callSi (n := 3) mX4_in [.long (Int32.toInt64 (nt3 a b c k)), .long 0, .long (7)] dX4_bar_55 ckX4_60 rfl (by decide +kernel) rfl rfl (Nat.le_of_ble_eq_true rfl) ⟨Nat.zero_le _, Nat.zero_le _⟩ (s_inN (nt3 a b c k) 7 8 (by decide) (by decide) mm) (fun v55 m7 hm7 => ?_)
    rcases hm7 with ⟨rfl, ⟨rfl, q1⟩ | ⟨rfl, q1⟩⟩
    · refine e_if_eq 84 dX4_bar_58 (by decide) (fun h => absurd h (by decide)) (fun c58 => ?_)
      refine e_iload dX4_bar_61 rfl ?_
      refine e_aload_n dX4_bar_63 rfl ?_
      refine e_getR (o := 4) (b := 102) dX4_bar_64 lkX4_19 rfl rfl (by decide) rfl ?_
      refine e_iconst (v := 1) dX4_bar_67 rfl ?_
      refine e_iald dX4_bar_68 rfl 1 rfl (by decide) (by decide) ?_
      rw [show mm 102 1 = nI V from by rw [g102]; exact h1]
      refine e_icmp_lt 87 dX4_bar_69 (by decide) (fun c69 => ?_) (fun c69 => ?_)
      · have hkV : k < V := (j_lt (by omega) (by omega)).mp c69
        have hor : k < V ∨ 7 ≤ nt3 a b c k := Or.inl hkV
        refine e_iload dX4_bar_87 rfl ?_
        refine e_if_eq 123 dX4_bar_89 (by decide) (fun c89 => ?_) (fun c89 => ?_)
        · have hck : canA (m 102) (nt3 a b c) V k = false := b01_f c89
          refine e_iconst (v := 0) dX4_bar_123 rfl ?_
          try rw [g102] at q2
          refine e_istore (L' := [some (.ref 98), some (.int a), some (.int b), some (.int c), some (.int 0), some (.int (nI k))]) dX4_bar_124 (Nat.le_of_ble_eq_true rfl) (Nat.le_of_ble_eq_true rfl) (jnl_at (i := 3) rfl) rfl ?_
          refine e_iinc (v := nI (k + 1)) (L' := [some (.ref 98), some (.int a), some (.int b), some (.int c), some (.int 0), some (.int (nI (k + 1)))]) dX4_bar_126 rfl (j_inc rfl) (by decide) (jnl_at (i := 4) rfl) rfl ?_
          refine e_goto 37 dX4_bar_129 (by decide) ?_
          
          have eC : canA (m 102) (nt3 a b c) V (k + 1) = false := by first | exact absurd hV2 hkV | exact canA_f hkV q2 | exact canA_f hV2 q2 | (rw [show canA (m 102) (nt3 a b c) V (k + 1) = (canA (m 102) (nt3 a b c) V k && _) from rfl, hck]; rfl)
          refine e_start (by simp only [eC]; rfl) rfl (ih () mm ⟨hI1, fun s hs => ?_⟩)
          by_cases hsk : s = k
          · rw [hsk]; exact ⟨q1, hor⟩
          · exact hI2 s (by omega)
        · have hck : canA (m 102) (nt3 a b c) V k = true := b01_t c89
          refine e_iload dX4_bar_92 rfl ?_
          refine e_aload_n dX4_bar_94 rfl ?_
          refine e_getR (o := 4) (b := 102) dX4_bar_95 lkX4_19 rfl rfl (by decide) rfl ?_
          refine e_iconst (v := 1) dX4_bar_98 rfl ?_
          refine e_iald dX4_bar_99 rfl 1 rfl (by decide) (by decide) ?_
          rw [show mm 102 1 = nI V from by rw [g102]; exact h1]
          refine e_icmp_ge 119 dX4_bar_100 (by decide) (fun c100 => ?_) (fun c100 => ?_)
          · have hV2 : V ≤ k := (j_le (by omega) (by omega)).mp c100
            refine e_iconst (v := 1) dX4_bar_119 rfl ?_
            refine e_goto 124 dX4_bar_120 (by decide) ?_
            try rw [g102] at q2
            refine e_istore (L' := [some (.ref 98), some (.int a), some (.int b), some (.int c), some (.int 1), some (.int (nI k))]) dX4_bar_124 (Nat.le_of_ble_eq_true rfl) (Nat.le_of_ble_eq_true rfl) (jnl_at (i := 3) rfl) rfl ?_
            refine e_iinc (v := nI (k + 1)) (L' := [some (.ref 98), some (.int a), some (.int b), some (.int c), some (.int 1), some (.int (nI (k + 1)))]) dX4_bar_126 rfl (j_inc rfl) (by decide) (jnl_at (i := 4) rfl) rfl ?_
            refine e_goto 37 dX4_bar_129 (by decide) ?_
            
            have eC : canA (m 102) (nt3 a b c) V (k + 1) = true := by rw [canA_t (by first | exact Or.inr q2 | exact Or.inl (by omega))]; exact hck
            refine e_start (by simp only [eC]; rfl) rfl (ih () mm ⟨hI1, fun s hs => ?_⟩)
            by_cases hsk : s = k
            · rw [hsk]; exact ⟨q1, hor⟩
            · exact hI2 s (by omega)
          · have hV2 : k < V := (j_lt (by omega) (by omega)).mp (Int32.not_le.mp c100)
            refine e_aload_n dX4_bar_103 rfl ?_
            refine e_iload dX4_bar_104 rfl ?_
            refine e_aload_n dX4_bar_106 rfl ?_
            refine e_getR (o := 8) (b := 106) dX4_bar_107 lkX4_31 rfl rfl (by decide) rfl ?_
            refine e_iload dX4_bar_110 rfl ?_
            refine e_iald dX4_bar_112 rfl k rfl (by omega) (by decide) ?_
            rw [show mm 106 k = nt3 a b c k from g106]
            refine e_callVi (n := 2) mX4_canSing [.int (nI k), .int (nt3 a b c k)] dX4_bar_113 ckX4_158 rfl (by decide +kernel) rfl rfl rfl rfl (Nat.le_of_ble_eq_true rfl) ⟨Nat.zero_le _, Nat.zero_le _⟩ (s_canB k (by omega) (nt3 a b c k) mm) (fun v113 m8 hm8 => ?_)
            rcases hm8 with ⟨rfl, ⟨rfl, q2⟩ | ⟨rfl, q2⟩⟩
            · refine e_if_eq 123 dX4_bar_116 (by decide) (fun h => absurd h (by decide)) (fun c116 => ?_)
              refine e_iconst (v := 1) dX4_bar_119 rfl ?_
              refine e_goto 124 dX4_bar_120 (by decide) ?_
              try rw [g102] at q2
              refine e_istore (L' := [some (.ref 98), some (.int a), some (.int b), some (.int c), some (.int 1), some (.int (nI k))]) dX4_bar_124 (Nat.le_of_ble_eq_true rfl) (Nat.le_of_ble_eq_true rfl) (jnl_at (i := 3) rfl) rfl ?_
              refine e_iinc (v := nI (k + 1)) (L' := [some (.ref 98), some (.int a), some (.int b), some (.int c), some (.int 1), some (.int (nI (k + 1)))]) dX4_bar_126 rfl (j_inc rfl) (by decide) (jnl_at (i := 4) rfl) rfl ?_
              refine e_goto 37 dX4_bar_129 (by decide) ?_
              
              have eC : canA (m 102) (nt3 a b c) V (k + 1) = true := by rw [canA_t (by first | exact Or.inr q2 | exact Or.inl (by omega))]; exact hck
              refine e_start (by simp only [eC]; rfl) rfl (ih () mm ⟨hI1, fun s hs => ?_⟩)
              by_cases hsk : s = k
              · rw [hsk]; exact ⟨q1, hor⟩
              · exact hI2 s (by omega)
            · refine e_if_eq 123 dX4_bar_116 (by decide) (fun c116 => ?_) (fun h => absurd h (by decide))
              refine e_iconst (v := 0) dX4_bar_123 rfl ?_
              try rw [g102] at q2
              refine e_istore (L' := [some (.ref 98), some (.int a), some (.int b), some (.int c), some (.int 0), some (.int (nI k))]) dX4_bar_124 (Nat.le_of_ble_eq_true rfl) (Nat.le_of_ble_eq_true rfl) (jnl_at (i := 3) rfl) rfl ?_
              refine e_iinc (v := nI (k + 1)) (L' := [some (.ref 98), some (.int a), some (.int b), some (.int c), some (.int 0), some (.int (nI (k + 1)))]) dX4_bar_126 rfl (j_inc rfl) (by decide) (jnl_at (i := 4) rfl) rfl ?_
              refine e_goto 37 dX4_bar_129 (by decide) ?_
              
              have eC : canA (m 102) (nt3 a b c) V (k + 1) = false := by first | exact absurd hV2 hkV | exact canA_f hkV q2 | exact canA_f hV2 q2 | (rw [show canA (m 102) (nt3 a b c) V (k + 1) = (canA (m 102) (nt3 a b c) V k && _) from rfl, hck]; rfl)
              refine e_start (by simp only [eC]; rfl) rfl (ih () mm ⟨hI1, fun s hs => ?_⟩)
              by_cases hsk : s = k
              · rw [hsk]; exact ⟨q1, hor⟩
              · exact hI2 s (by omega)
      · have hkV : ¬ k < V := fun z => c69 ((j_lt (by omega) (by omega)).mpr z)
        refine e_aload_n dX4_bar_72 rfl ?_
        refine e_getR (o := 8) (b := 106) dX4_bar_73 lkX4_31 rfl rfl (by decide) rfl ?_
        refine e_iload dX4_bar_76 rfl ?_
        refine e_iald dX4_bar_78 rfl k rfl (by omega) (by decide) ?_
        rw [show mm 106 k = nt3 a b c k from g106]
        refine e_bipush (v := 7) dX4_bar_79 rfl ?_
        refine e_icmp_ge 87 dX4_bar_81 (by decide) (fun c81 => ?_) (fun c81 => ?_)
        · have hor : k < V ∨ 7 ≤ nt3 a b c k := Or.inr c81
          refine e_iload dX4_bar_87 rfl ?_
          refine e_if_eq 123 dX4_bar_89 (by decide) (fun c89 => ?_) (fun c89 => ?_)
          · have hck : canA (m 102) (nt3 a b c) V k = false := b01_f c89
            refine e_iconst (v := 0) dX4_bar_123 rfl ?_
            try rw [g102] at q2
            refine e_istore (L' := [some (.ref 98), some (.int a), some (.int b), some (.int c), some (.int 0), some (.int (nI k))]) dX4_bar_124 (Nat.le_of_ble_eq_true rfl) (Nat.le_of_ble_eq_true rfl) (jnl_at (i := 3) rfl) rfl ?_
            refine e_iinc (v := nI (k + 1)) (L' := [some (.ref 98), some (.int a), some (.int b), some (.int c), some (.int 0), some (.int (nI (k + 1)))]) dX4_bar_126 rfl (j_inc rfl) (by decide) (jnl_at (i := 4) rfl) rfl ?_
            refine e_goto 37 dX4_bar_129 (by decide) ?_
            
            have eC : canA (m 102) (nt3 a b c) V (k + 1) = false := by first | exact absurd hV2 hkV | exact canA_f hkV q2 | exact canA_f hV2 q2 | (rw [show canA (m 102) (nt3 a b c) V (k + 1) = (canA (m 102) (nt3 a b c) V k && _) from rfl, hck]; rfl)
            refine e_start (by simp only [eC]; rfl) rfl (ih () mm ⟨hI1, fun s hs => ?_⟩)
            by_cases hsk : s = k
            · rw [hsk]; exact ⟨q1, hor⟩
            · exact hI2 s (by omega)
          · have hck : canA (m 102) (nt3 a b c) V k = true := b01_t c89
            refine e_iload dX4_bar_92 rfl ?_
            refine e_aload_n dX4_bar_94 rfl ?_
            refine e_getR (o := 4) (b := 102) dX4_bar_95 lkX4_19 rfl rfl (by decide) rfl ?_
            refine e_iconst (v := 1) dX4_bar_98 rfl ?_
            refine e_iald dX4_bar_99 rfl 1 rfl (by decide) (by decide) ?_
            rw [show mm 102 1 = nI V from by rw [g102]; exact h1]
            refine e_icmp_ge 119 dX4_bar_100 (by decide) (fun c100 => ?_) (fun c100 => ?_)
            · have hV2 : V ≤ k := (j_le (by omega) (by omega)).mp c100
              refine e_iconst (v := 1) dX4_bar_119 rfl ?_
              refine e_goto 124 dX4_bar_120 (by decide) ?_
              try rw [g102] at q2
              refine e_istore (L' := [some (.ref 98), some (.int a), some (.int b), some (.int c), some (.int 1), some (.int (nI k))]) dX4_bar_124 (Nat.le_of_ble_eq_true rfl) (Nat.le_of_ble_eq_true rfl) (jnl_at (i := 3) rfl) rfl ?_
              refine e_iinc (v := nI (k + 1)) (L' := [some (.ref 98), some (.int a), some (.int b), some (.int c), some (.int 1), some (.int (nI (k + 1)))]) dX4_bar_126 rfl (j_inc rfl) (by decide) (jnl_at (i := 4) rfl) rfl ?_
              refine e_goto 37 dX4_bar_129 (by decide) ?_
              
              have eC : canA (m 102) (nt3 a b c) V (k + 1) = true := by rw [canA_t (by first | exact Or.inr q2 | exact Or.inl (by omega))]; exact hck
              refine e_start (by simp only [eC]; rfl) rfl (ih () mm ⟨hI1, fun s hs => ?_⟩)
              by_cases hsk : s = k
              · rw [hsk]; exact ⟨q1, hor⟩
              · exact hI2 s (by omega)
            · have hV2 : k < V := (j_lt (by omega) (by omega)).mp (Int32.not_le.mp c100)
              refine e_aload_n dX4_bar_103 rfl ?_
              refine e_iload dX4_bar_104 rfl ?_
              refine e_aload_n dX4_bar_106 rfl ?_
              refine e_getR (o := 8) (b := 106) dX4_bar_107 lkX4_31 rfl rfl (by decide) rfl ?_
              refine e_iload dX4_bar_110 rfl ?_
              refine e_iald dX4_bar_112 rfl k rfl (by omega) (by decide) ?_
              rw [show mm 106 k = nt3 a b c k from g106]
              refine e_callVi (n := 2) mX4_canSing [.int (nI k), .int (nt3 a b c k)] dX4_bar_113 ckX4_158 rfl (by decide +kernel) rfl rfl rfl rfl (Nat.le_of_ble_eq_true rfl) ⟨Nat.zero_le _, Nat.zero_le _⟩ (s_canB k (by omega) (nt3 a b c k) mm) (fun v113 m9 hm9 => ?_)
              rcases hm9 with ⟨rfl, ⟨rfl, q2⟩ | ⟨rfl, q2⟩⟩
              · refine e_if_eq 123 dX4_bar_116 (by decide) (fun h => absurd h (by decide)) (fun c116 => ?_)
                refine e_iconst (v := 1) dX4_bar_119 rfl ?_
                refine e_goto 124 dX4_bar_120 (by decide) ?_
                try rw [g102] at q2
                refine e_istore (L' := [some (.ref 98), some (.int a), some (.int b), some (.int c), some (.int 1), some (.int (nI k))]) dX4_bar_124 (Nat.le_of_ble_eq_true rfl) (Nat.le_of_ble_eq_true rfl) (jnl_at (i := 3) rfl) rfl ?_
                refine e_iinc (v := nI (k + 1)) (L' := [some (.ref 98), some (.int a), some (.int b), some (.int c), some (.int 1), some (.int (nI (k + 1)))]) dX4_bar_126 rfl (j_inc rfl) (by decide) (jnl_at (i := 4) rfl) rfl ?_
                refine e_goto 37 dX4_bar_129 (by decide) ?_
                
                have eC : canA (m 102) (nt3 a b c) V (k + 1) = true := by rw [canA_t (by first | exact Or.inr q2 | exact Or.inl (by omega))]; exact hck
                refine e_start (by simp only [eC]; rfl) rfl (ih () mm ⟨hI1, fun s hs => ?_⟩)
                by_cases hsk : s = k
                · rw [hsk]; exact ⟨q1, hor⟩
                · exact hI2 s (by omega)
              · refine e_if_eq 123 dX4_bar_116 (by decide) (fun c116 => ?_) (fun h => absurd h (by decide))
                refine e_iconst (v := 0) dX4_bar_123 rfl ?_
                try rw [g102] at q2
                refine e_istore (L' := [some (.ref 98), some (.int a), some (.int b), some (.int c), some (.int 0), some (.int (nI k))]) dX4_bar_124 (Nat.le_of_ble_eq_true rfl) (Nat.le_of_ble_eq_true rfl) (jnl_at (i := 3) rfl) rfl ?_
                refine e_iinc (v := nI (k + 1)) (L' := [some (.ref 98), some (.int a), some (.int b), some (.int c), some (.int 0), some (.int (nI (k + 1)))]) dX4_bar_126 rfl (j_inc rfl) (by decide) (jnl_at (i := 4) rfl) rfl ?_
                refine e_goto 37 dX4_bar_129 (by decide) ?_
                
                have eC : canA (m 102) (nt3 a b c) V (k + 1) = false := by first | exact absurd hV2 hkV | exact canA_f hkV q2 | exact canA_f hV2 q2 | (rw [show canA (m 102) (nt3 a b c) V (k + 1) = (canA (m 102) (nt3 a b c) V k && _) from rfl, hck]; rfl)
                refine e_start (by simp only [eC]; rfl) rfl (ih () mm ⟨hI1, fun s hs => ?_⟩)
                by_cases hsk : s = k
                · rw [hsk]; exact ⟨q1, hor⟩
                · exact hI2 s (by omega)
        · refine e_ldc dX4_bar_84 kkX4_70 ?_
          exact e_iret dX4_bar_86 rfl (Or.inl ⟨fun z => by first | exact q1 (z k hk).1 | exact (z k hk).2.elim hkV c81, rfl, hI1.symm⟩)
    · refine e_if_eq 84 dX4_bar_58 (by decide) (fun c58 => ?_) (fun h => absurd h (by decide))
      refine e_ldc dX4_bar_84 kkX4_70 ?_
      exact e_iret dX4_bar_86 rfl (Or.inl ⟨fun z => by first | exact q1 (z k hk).1 | exact (z k hk).2.elim hkV c81, rfl, hI1.symm⟩)

set_option maxHeartbeats 2000000 in
set_option maxRecDepth 20000 in
theorem s_Dwin_b (m : jM) (V : Nat) (hV : V ≤ 3) (h1 : m 102 1 = nI V) (P : Nat) (hP : P ≤ 5) (h2 : m 102 2 = nI P) (x y z : Int32) (hb : ¬ (inN x P ∧ inN y V ∧ inN z 2)) : iX mX4_window [.ref 98, .int x, .int y, .int z] m (fun v m1 => v = -1000001 ∧ m = m1) := by
  refine jX_of (L := [some (.ref 98), some (.int x), some (.int y), some (.int z)]) 0 rfl rfl (by decide +kernel) rfl ?_
  refine e_aload_n dX4_window_0 rfl ?_
  refine e_iload_n dX4_window_1 rfl ?_
  refine e_callVi (n := 1) mX4_isPan [.int x] dX4_window_2 ckX4_171 rfl (by decide +kernel) rfl rfl rfl rfl (Nat.le_of_ble_eq_true rfl) ⟨Nat.zero_le _, Nat.zero_le _⟩ (s_panN x m P hP h2) (fun v2 m1 hm1 => ?_)
  rcases hm1 with ⟨rfl, ⟨rfl, q⟩ | ⟨rfl, q⟩⟩
  · refine e_if_eq 26 dX4_window_5 (by decide) (fun h => absurd h (by decide)) (fun c5 => ?_)
    refine e_aload_n dX4_window_8 rfl ?_
    refine e_iload_n dX4_window_9 rfl ?_
    refine e_callVi (n := 1) mX4_isSinger [.int y] dX4_window_10 ckX4_174 rfl (by decide +kernel) rfl rfl rfl rfl (Nat.le_of_ble_eq_true rfl) ⟨Nat.zero_le _, Nat.zero_le _⟩ (s_sngN y m V hV h1) (fun v10 m2 hm2 => ?_)
    rcases hm2 with ⟨rfl, ⟨rfl, q1⟩ | ⟨rfl, q1⟩⟩
    · refine e_if_eq 26 dX4_window_13 (by decide) (fun h => absurd h (by decide)) (fun c13 => ?_)
      refine e_iload_n dX4_window_16 rfl ?_
      refine e_i2l dX4_window_17 ?_
      refine e_lconst (v := 0) dX4_window_18 rfl ?_
      refine e_lconst (v := 1) dX4_window_19 rfl ?_
      refine e_callSi (n := 3) mX4_in [.long (Int32.toInt64 z), .long 0, .long 1] dX4_window_20 ckX4_60 rfl (by decide +kernel) rfl rfl (Nat.le_of_ble_eq_true rfl) ⟨Nat.zero_le _, Nat.zero_le _⟩ (s_inN z 1 2 (by decide) (by decide) m) (fun v20 m3 hm3 => ?_)
      rcases hm3 with ⟨rfl, ⟨rfl, q2⟩ | ⟨rfl, q2⟩⟩
      · exact False.elim (hb ⟨q, q1, q2⟩)
      · refine e_if_ne 29 dX4_window_23 (by decide) (fun h => absurd h (by decide)) (fun c23 => ?_)
        refine e_ldc dX4_window_26 kkX4_70 ?_
        exact e_iret dX4_window_28 rfl (⟨rfl, rfl⟩)
    · refine e_if_eq 26 dX4_window_13 (by decide) (fun c13 => ?_) (fun h => absurd h (by decide))
      refine e_ldc dX4_window_26 kkX4_70 ?_
      exact e_iret dX4_window_28 rfl (⟨rfl, rfl⟩)
  · refine e_if_eq 26 dX4_window_5 (by decide) (fun c5 => ?_) (fun h => absurd h (by decide))
    refine e_ldc dX4_window_26 kkX4_70 ?_
    exact e_iret dX4_window_28 rfl (⟨rfl, rfl⟩)

set_option maxHeartbeats 2000000 in
set_option maxRecDepth 20000 in
theorem s_Dwin (m : jM) (V : Nat) (hV : V ≤ 3) (h1 : m 102 1 = nI V) (P : Nat) (hP : P ≤ 5) (h2 : m 102 2 = nI P) (p : Nat) (hp : p < P) (s : Nat) (hs : s < V) (z : Int32) (hz : inN z 2) (n : Nat) (hn24 : n ≤ 24) (hcn : m 98 18 = nI n) : iX mX4_window [.ref 98, .int (nI p), .int (nI s), .int z] m (fun v m1 => (((m 102 (31 + p) >>> (nI s &&& 31)) &&& 1) = z ∧ v = -1000002 ∧ m = m1) ∨ (¬ ((m 102 (31 + p) >>> (nI s &&& 31)) &&& 1) = z ∧ v = 1 ∧ jst (jst (jup m 107 (noteA (m 107) (m 102) n)) 98 18 (nI (noteN n))) 102 (31 + p) (m 102 (31 + p) ^^^ ((1 : Int32) <<< (nI s &&& 31))) = m1)) := by
  refine jX_of (L := [some (.ref 98), some (.int (nI p)), some (.int (nI s)), some (.int z)]) 0 rfl rfl (by decide +kernel) rfl ?_
  refine e_aload_n dX4_window_0 rfl ?_
  refine e_iload_n dX4_window_1 rfl ?_
  refine e_callVi (n := 1) mX4_isPan [.int (nI p)] dX4_window_2 ckX4_171 rfl (by decide +kernel) rfl rfl rfl rfl (Nat.le_of_ble_eq_true rfl) ⟨Nat.zero_le _, Nat.zero_le _⟩ (s_panN (nI p) m P hP h2) (fun v2 m1 hm1 => ?_)
  rcases hm1 with ⟨rfl, ⟨rfl, q5⟩ | ⟨rfl, q5⟩⟩
  · refine e_if_eq 26 dX4_window_5 (by decide) (fun h => absurd h (by decide)) (fun c5 => ?_)
    refine e_aload_n dX4_window_8 rfl ?_
    refine e_iload_n dX4_window_9 rfl ?_
    refine e_callVi (n := 1) mX4_isSinger [.int (nI s)] dX4_window_10 ckX4_174 rfl (by decide +kernel) rfl rfl rfl rfl (Nat.le_of_ble_eq_true rfl) ⟨Nat.zero_le _, Nat.zero_le _⟩ (s_sngN (nI s) m V hV h1) (fun v10 m2 hm2 => ?_)
    rcases hm2 with ⟨rfl, ⟨rfl, q6⟩ | ⟨rfl, q6⟩⟩
    · refine e_if_eq 26 dX4_window_13 (by decide) (fun h => absurd h (by decide)) (fun c13 => ?_)
      refine e_iload_n dX4_window_16 rfl ?_
      refine e_i2l dX4_window_17 ?_
      refine e_lconst (v := 0) dX4_window_18 rfl ?_
      refine e_lconst (v := 1) dX4_window_19 rfl ?_
      refine e_callSi (n := 3) mX4_in [.long (Int32.toInt64 z), .long 0, .long 1] dX4_window_20 ckX4_60 rfl (by decide +kernel) rfl rfl (Nat.le_of_ble_eq_true rfl) ⟨Nat.zero_le _, Nat.zero_le _⟩ (s_inN z 1 2 (by decide) (by decide) m) (fun v20 m3 hm3 => ?_)
      rcases hm3 with ⟨rfl, ⟨rfl, q2⟩ | ⟨rfl, q2⟩⟩
      · refine e_if_ne 29 dX4_window_23 (by decide) (fun c23 => ?_) (fun h => absurd h (by decide))
        refine e_aload_n dX4_window_29 rfl ?_
        refine e_getR (o := 4) (b := 102) dX4_window_30 lkX4_19 rfl rfl (by decide) rfl ?_
        refine e_bipush (v := 31) dX4_window_33 rfl ?_
        refine e_iload_n dX4_window_35 rfl ?_
        refine e_iadd dX4_window_36 ?_
        refine e_iald dX4_window_37 rfl (31 + p) (j_add rfl rfl) (by omega) (by decide) ?_
        refine e_iload_n dX4_window_38 rfl ?_
        refine e_ishr dX4_window_39 ?_
        refine e_iconst (v := 1) dX4_window_40 rfl ?_
        refine e_iand dX4_window_41 ?_
        refine e_iload_n dX4_window_42 rfl ?_
        refine e_icmp_ne 49 dX4_window_43 (by decide) (fun c43 => ?_) (fun c43 => ?_)
        · refine e_aload_n dX4_window_49 rfl ?_
          refine e_callVv (n := 0) mX4_note [] dX4_window_50 ckX4_161 rfl (by decide +kernel) rfl rfl rfl rfl (Nat.le_of_ble_eq_true rfl) ⟨Nat.zero_le _, Nat.zero_le _⟩ (s_note m n hn24 hcn) (fun mq hmq => ?_)
          refine e_aload_n dX4_window_53 rfl ?_
          refine e_getR (o := 4) (b := 102) dX4_window_54 lkX4_19 rfl rfl (by decide) rfl ?_
          refine e_bipush (v := 31) dX4_window_57 rfl ?_
          refine e_iload_n dX4_window_59 rfl ?_
          refine e_iadd dX4_window_60 ?_
          refine e_dup2 dX4_window_61 rfl rfl ?_
          refine e_iald dX4_window_62 rfl (31 + p) (j_add rfl rfl) (by omega) (by decide) ?_
          rw [show mq 102 (31 + p) = m 102 (31 + p) from by rw [← hmq, jst_n _ _ _ (by decide), jup_n _ _ (by decide)]]
          refine e_iconst (v := 1) dX4_window_63 rfl ?_
          refine e_iload_n dX4_window_64 rfl ?_
          refine e_ishl dX4_window_65 ?_
          refine e_ixor dX4_window_66 ?_
          refine e_iast dX4_window_67 rfl (31 + p) (j_add rfl rfl) (by omega) (by decide) (fun mf hmf => ?_)
          refine e_iconst (v := 1) dX4_window_68 rfl ?_
          exact e_iret dX4_window_69 rfl (Or.inr ⟨c43, rfl, by rw [hmf, ← hmq]⟩)
        · refine e_ldc dX4_window_46 kkX4_157 ?_
          exact e_iret dX4_window_48 rfl (Or.inl ⟨c43, rfl, rfl⟩)
      · exact False.elim (q2 hz)
    · exact False.elim (q6 (inN_nI (by omega) hs))
  · exact False.elim (q5 (inN_nI (by omega) hp))

set_option maxHeartbeats 2000000 in
set_option maxRecDepth 20000 in
theorem s_Dcount (m : jM) (P : Nat) (hP : P ≤ 5) (h2 : m 102 2 = nI P) (w : Int32) : iX mX4_count [.ref 98, .int w] m (fun v m1 => v = cntV m P w ∧ m = m1) := by
  refine jX_of (L := [some (.ref 98), some (.int w), none, none]) 2 rfl rfl (by decide +kernel) rfl ?_
  refine e_iconst (v := 0) dX4_count_0 rfl ?_
  refine e_istore_n (L' := [some (.ref 98), some (.int w), some (.int 0), none]) dX4_count_1 (Nat.le_of_ble_eq_true rfl) (Nat.le_of_ble_eq_true rfl) (jnl_at (i := 1) rfl) rfl ?_
  refine e_iconst (v := 0) dX4_count_2 rfl ?_
  refine e_istore_n (L' := [some (.ref 98), some (.int w), some (.int 0), some (.int 0)]) dX4_count_3 (Nat.le_of_ble_eq_true rfl) (Nat.le_of_ble_eq_true rfl) (jnl_at (i := 2) rfl) rfl ?_
  refine e_loop 4 8 (fun k => [some (.ref 98), some (.int w), some (.int (nI (rowsN (m 100) k))), some (.int (nI k))]) (fun k => m) 0 (Nat.zero_le _) rfl (rfl) ?_ ?_
  · show jE _ _ 4 [some (.ref 98), some (.int w), some (.int (nI (rowsN (m 100) 8))), some (.int (nI 8))] [] m
    refine e_iload_n dX4_count_4 rfl ?_
    refine e_bipush (v := 8) dX4_count_5 rfl ?_
    refine e_icmp_ge 33 dX4_count_7 (by decide) (fun c7 => ?_) (fun h => absurd (j_done rfl rfl) h)
    refine e_iload_n dX4_count_33 rfl ?_
    by_cases z34_0 : w = 0
    · subst z34_0
      refine e_tsIn 80 dX4_count_34 (by decide) (by decide) rfl (by decide) ?_
      refine e_iload_n dX4_count_80 rfl ?_
      exact e_iret dX4_count_81 rfl (⟨by unfold cntV; simp_all, rfl⟩)
    by_cases z34_1 : w = 1
    · subst z34_1
      refine e_tsIn 82 dX4_count_34 (by decide) (by decide) rfl (by decide) ?_
      refine e_aload_n dX4_count_82 rfl ?_
      refine e_getR (o := 4) (b := 102) dX4_count_83 lkX4_19 rfl rfl (by decide) rfl ?_
      refine e_iconst (v := 1) dX4_count_86 rfl ?_
      refine e_iald dX4_count_87 rfl 1 rfl (by decide) (by decide) ?_
      exact e_iret dX4_count_88 rfl (⟨by unfold cntV; simp_all, rfl⟩)
    by_cases z34_2 : w = 2
    · subst z34_2
      refine e_tsIn 89 dX4_count_34 (by decide) (by decide) rfl (by decide) ?_
      refine e_aload_n dX4_count_89 rfl ?_
      refine e_getR (o := 4) (b := 102) dX4_count_90 lkX4_19 rfl rfl (by decide) rfl ?_
      refine e_iconst (v := 2) dX4_count_93 rfl ?_
      refine e_iald dX4_count_94 rfl 2 rfl (by decide) (by decide) ?_
      exact e_iret dX4_count_95 rfl (⟨by unfold cntV; simp_all, rfl⟩)
    by_cases z34_3 : w = 3
    · subst z34_3
      refine e_tsIn 96 dX4_count_34 (by decide) (by decide) rfl (by decide) ?_
      refine e_aload_n dX4_count_96 rfl ?_
      refine e_getR (o := 4) (b := 102) dX4_count_97 lkX4_19 rfl rfl (by decide) rfl ?_
      refine e_iconst (v := 3) dX4_count_100 rfl ?_
      refine e_iald dX4_count_101 rfl 3 rfl (by decide) (by decide) ?_
      exact e_iret dX4_count_102 rfl (⟨by unfold cntV; simp_all, rfl⟩)
    by_cases z34_4 : w = 4
    · subst z34_4
      refine e_tsIn 103 dX4_count_34 (by decide) (by decide) rfl (by decide) ?_
      refine e_aload_n dX4_count_103 rfl ?_
      refine e_getR (o := 4) (b := 102) dX4_count_104 lkX4_19 rfl rfl (by decide) rfl ?_
      refine e_iconst (v := 0) dX4_count_107 rfl ?_
      refine e_iald dX4_count_108 rfl 0 rfl (by decide) (by decide) ?_
      exact e_iret dX4_count_109 rfl (⟨by unfold cntV; simp_all, rfl⟩)
    by_cases z34_5 : w = 5
    · subst z34_5
      refine e_tsIn 110 dX4_count_34 (by decide) (by decide) rfl (by decide) ?_
      refine e_aload_n dX4_count_110 rfl ?_
      refine e_callVi (n := 0) mX4_setPans [] dX4_count_111 ckX4_167 rfl (by decide +kernel) rfl rfl rfl rfl (Nat.le_of_ble_eq_true rfl) ⟨Nat.zero_le _, Nat.zero_le _⟩ (s_setPans m P hP h2) (fun v111 m1 hm1 => ?_)
      obtain ⟨rfl, rfl⟩ := hm1
      exact e_iret dX4_count_114 rfl (⟨by unfold cntV; simp_all, rfl⟩)
    by_cases z34_6 : w = 6
    · subst z34_6
      refine e_tsIn 115 dX4_count_34 (by decide) (by decide) rfl (by decide) ?_
      refine e_aload_n dX4_count_115 rfl ?_
      refine e_getI dX4_count_116 lkX4_146 rfl rfl ?_
      exact e_iret dX4_count_119 rfl (⟨by unfold cntV; simp_all, rfl⟩)
    by_cases z34_7 : w = 7
    · subst z34_7
      refine e_tsIn 120 dX4_count_34 (by decide) (by decide) rfl (by decide) ?_
      refine e_aload_n dX4_count_120 rfl ?_
      refine e_getI dX4_count_121 lkX4_84 rfl rfl ?_
      exact e_iret dX4_count_124 rfl (⟨by unfold cntV; simp_all, rfl⟩)
    refine e_tsOut 125 dX4_count_34 (j_out8 z34_0 z34_1 z34_2 z34_3 z34_4 z34_5 z34_6 z34_7) (by decide) ?_
    refine e_ldc dX4_count_125 kkX4_70 ?_
    exact e_iret dX4_count_127 rfl (⟨by unfold cntV; simp_all, rfl⟩)
  · intro k hk ih
    show jE _ _ 4 [some (.ref 98), some (.int w), some (.int (nI (rowsN (m 100) k))), some (.int (nI k))] [] m
    refine e_iload_n dX4_count_4 rfl ?_
    refine e_bipush (v := 8) dX4_count_5 rfl ?_
    refine e_icmp_ge 33 dX4_count_7 (by decide) (fun h => absurd h (j_more (N := 8) rfl rfl (by omega) (by omega))) (fun c7 => ?_)
    refine e_iload_n dX4_count_10 rfl ?_
    refine e_aload_n dX4_count_11 rfl ?_
    refine e_getR (o := 2) (b := 100) dX4_count_12 lkX4_13 rfl rfl (by decide) rfl ?_
    refine e_iload_n dX4_count_15 rfl ?_
    refine e_iald dX4_count_16 rfl k rfl (by omega) (by decide) ?_
    refine e_if_lt 24 dX4_count_17 (by decide) (fun c17 => ?_) (fun c17 => ?_)
    · refine e_iconst (v := 0) dX4_count_24 rfl ?_
      refine e_iadd dX4_count_25 ?_
      rw [show (nI (rowsN (m 100) k)) + 0 = nI ((rowsN (m 100) k) + 0) from (j_add rfl rfl)]
      refine e_istore_n (L' := [some (.ref 98), some (.int w), some (.int (nI ((rowsN (m 100) k) + 0))), some (.int (nI k))]) dX4_count_26 (Nat.le_of_ble_eq_true rfl) (Nat.le_of_ble_eq_true rfl) (jnl_at (i := 1) rfl) rfl ?_
      refine e_iinc (v := nI (k + 1)) (L' := [some (.ref 98), some (.int w), some (.int (nI ((rowsN (m 100) k) + 0))), some (.int (nI (k + 1)))]) dX4_count_27 rfl (j_inc rfl) (by decide) (jnl_at (i := 2) rfl) rfl ?_
      refine e_goto 4 dX4_count_30 (by decide) ?_
      have eR : rowsN (m 100) (k + 1) = (rowsN (m 100) k) + 0 := by
        show rowsN (m 100) k + (if 0 ≤ m 100 k then 1 else 0) = _
        first | rw [if_pos (Int32.not_lt.mp c17)] | rw [if_neg (Int32.not_le.mpr c17)]
      refine e_start (by simp only [eR]) rfl ih
    · refine e_iconst (v := 1) dX4_count_20 rfl ?_
      refine e_goto 25 dX4_count_21 (by decide) ?_
      refine e_iadd dX4_count_25 ?_
      rw [show (nI (rowsN (m 100) k)) + 1 = nI ((rowsN (m 100) k) + 1) from (j_add rfl rfl)]
      refine e_istore_n (L' := [some (.ref 98), some (.int w), some (.int (nI ((rowsN (m 100) k) + 1))), some (.int (nI k))]) dX4_count_26 (Nat.le_of_ble_eq_true rfl) (Nat.le_of_ble_eq_true rfl) (jnl_at (i := 1) rfl) rfl ?_
      refine e_iinc (v := nI (k + 1)) (L' := [some (.ref 98), some (.int w), some (.int (nI ((rowsN (m 100) k) + 1))), some (.int (nI (k + 1)))]) dX4_count_27 rfl (j_inc rfl) (by decide) (jnl_at (i := 2) rfl) rfl ?_
      refine e_goto 4 dX4_count_30 (by decide) ?_
      have eR : rowsN (m 100) (k + 1) = (rowsN (m 100) k) + 1 := by
        show rowsN (m 100) k + (if 0 ≤ m 100 k then 1 else 0) = _
        first | rw [if_pos (Int32.not_lt.mp c17)] | rw [if_neg (Int32.not_le.mpr c17)]
      refine e_start (by simp only [eR]) rfl ih
