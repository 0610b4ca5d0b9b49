/-! ===== the text: what is read ===== -/
theorem dgC_le (t : Nat → Int32) (len : Nat) : ∀ f p, dgC t len f p ≤ f
  | 0, _ => Nat.le_refl _
  | f + 1, p => by
    show (if p < len ∧ isD (t p) = true then dgC t len f (p + 1) + 1 else 0) ≤ f + 1
    have := dgC_le t len f (p + 1)
    split <;> omega
theorem tkQ_le {t : Nat → Int32} {len p : Nat} (hp : p ≤ len) : p ≤ tkQ t len p ∧ tkQ t len p ≤ len := by
  have := dgC_le t len (len - p) p
  unfold tkQ dgR
  split
  · omega
  · split <;> omega
theorem tkQ_gt {t : Nat → Int32} {len p : Nat} (hp : p ≤ len) (h : ¬ tkT t len p = 3) : p < tkQ t len p := by
  unfold tkT at h
  unfold tkQ
  split
  · omega
  · rename_i h0
    rw [if_neg h0] at h
    split
    · rename_i h1
      rw [if_pos h1] at h
      exact absurd rfl h
    · omega
/-- the token that begins at p is before the reference -/
def tokAt (m : jM) (len p : Nat) : Prop := p ≤ len ∧ m 98 13 = nI p ∧ m 98 11 = tkT (m 104) len p ∧ m 98 12 = tkW (m 104) len p ∧ m 98 10 = nI (tkQ (m 104) len p) ∧ m 98 8 = nI len
/-- what reading changes: its own numbers, and what is read -/
def PF (m m1 : jM) : Prop := (∀ c, c ≠ 98 → c ≠ 105 → m1 c = m c) ∧ ∀ f, f < 10 ∨ 14 < f → m1 98 f = m 98 f
theorem PF.rf {m : jM} : PF m m := ⟨fun _ _ _ => rfl, fun _ _ => rfl⟩
theorem PF.tr {m m1 m2 : jM} (h : PF m m1) (h2 : PF m1 m2) : PF m m2 := ⟨fun c a b => (h2.1 c a b).trans (h.1 c a b), fun f a => (h2.2 f a).trans (h.2 f a)⟩
theorem PF.t {m m1 : jM} (h : PF m m1) : m1 104 = m 104 := h.1 104 (by decide) (by decide)
theorem tok_next {m m1 : jM} {len q : Nat} (hq : q ≤ len) (hb : m 98 8 = nI len) (e : jup m 98 (tkF (m 98) (nI q) (tkT (m 104) len q) (tkW (m 104) len q) (nI (tkQ (m 104) len q))) = m1) : PF m m1 ∧ m1 105 = m 105 ∧ tokAt m1 len q := by
  have e104 : m1 104 = m 104 := by rw [← e, jup_n _ _ (by decide)]
  have e98 : m1 98 = tkF (m 98) (nI q) (tkT (m 104) len q) (tkW (m 104) len q) (nI (tkQ (m 104) len q)) := by rw [← e, jup_s]
  refine ⟨⟨fun c a b => by rw [← e, jup_n _ _ a], fun f a => ?_⟩, by rw [← e, jup_n _ _ (by decide)], hq, ?_, ?_, ?_, ?_, ?_⟩
  · rw [e98]
    unfold tkF
    rw [upd_n _ _ (by omega), upd_n _ _ (by omega), upd_n _ _ (by omega), upd_n _ _ (by omega)]
  · rw [e98]; simp [tkF, upd]
  · rw [e98, e104]; simp [tkF, upd]
  · rw [e98, e104]; simp [tkF, upd]
  · rw [e98, e104]; simp [tkF, upd]
  · rw [e98]; simp [tkF, upd, hb]
/-- a fault and where, or what is read and where it goes on -/
abbrev PR : Type := (Int32 × Nat) ⊕ ((Nat → Int32) × Nat)
def prQ (m : jM) (len : Nat) (r : PR) (v : Int32) (m1 : jM) : Prop := PF m m1 ∧ ((∃ e q, r = .inl (e, q) ∧ v = 0 ∧ m1 98 14 = e ∧ m1 98 13 = nI q) ∨ (∃ rd q, r = .inr (rd, q) ∧ v = 1 ∧ m1 105 = rd ∧ tokAt m1 len q))
def takeP (t : Nat → Int32) (len : Nat) (rd : Nat → Int32) (c : Int32) (p : Nat) : PR := if tkT t len p = 1 ∧ tkW t len p = c then .inr (rd, tkQ t len p) else .inl (1, p)
def numM (t : Nat → Int32) (len : Nat) (rd : Nat → Int32) (lo hi : Int32) (a : Nat) (c : Int32) (p : Nat) : PR := if tkT t len p = 2 then (if lo ≤ tkW t len p ∧ tkW t len p ≤ hi then takeP t len (upd rd a (tkW t len p)) c (tkQ t len p) else .inl (2, p)) else .inl (1, p)
def bindPR (r : PR) (k : (Nat → Int32) → Nat → PR) : PR := match r with
  | .inl e => .inl e
  | .inr (rd, q) => k rd q
theorem bind_l {r : PR} {k : (Nat → Int32) → Nat → PR} {e : Int32} {q : Nat} (h : r = .inl (e, q)) : bindPR r k = .inl (e, q) := by rw [h]; rfl
theorem bind_r {r : PR} {k : (Nat → Int32) → Nat → PR} {rd : Nat → Int32} {q : Nat} (h : r = .inr (rd, q)) : bindPR r k = k rd q := by rw [h]; rfl
theorem takeP_r {t : Nat → Int32} {len : Nat} {rd rd' : Nat → Int32} {c : Int32} {p q : Nat} (hp : p ≤ len) (h : takeP t len rd c p = .inr (rd', q)) : rd' = rd ∧ p < q ∧ q ≤ len := by
  unfold takeP at h
  split at h
  · rename_i hc
    cases h
    exact ⟨rfl, tkQ_gt hp (by rw [hc.1]; decide), (tkQ_le hp).2⟩
  · cases h
theorem numM_r {t : Nat → Int32} {len : Nat} {rd rd' : Nat → Int32} {lo hi c : Int32} {a p q : Nat} (hp : p ≤ len) (h : numM t len rd lo hi a c p = .inr (rd', q)) : rd' = upd rd a (tkW t len p) ∧ lo ≤ tkW t len p ∧ tkW t len p ≤ hi ∧ p < q ∧ q ≤ len := by
  unfold numM at h
  split at h
  · rename_i hc
    split at h
    · rename_i hv
      have h1 := tkQ_le (t := t) hp
      obtain ⟨h2, h3, h4⟩ := takeP_r h1.2 h
      exact ⟨h2, hv.1, hv.2, by omega, h4⟩
    · cases h
  · cases h
def sngM (t : Nat → Int32) (len : Nat) (rd : Nat → Int32) (V P p : Nat) : PR :=
  if V = 3 ∨ 0 < P then .inl (if 0 < P then 1 else 3, p)
  else bindPR (numM t len (upd rd 1 (nI (V + 1))) 0 6 (4 + V) 44 (tkQ t len p)) fun r2 p2 => bindPR (numM t len r2 (r2 (4 + V)) 6 (7 + V) 44 p2) fun r3 p3 => numM t len r3 1 9 (10 + V) 59 p3
def panM (t : Nat → Int32) (len : Nat) (rd : Nat → Int32) (V P : Nat) (kind : Int32) (p : Nat) : PR :=
  if P = 5 then .inl (3, p)
  else bindPR (numM t len (upd (upd (upd rd (16 + P) kind) (46 + P) (-1000000)) 2 (nI (P + 1))) 0 127 (21 + P) 44 (tkQ t len p)) fun r2 p2 => bindPR (numM t len r2 1 20 (26 + P) 44 p2) fun r3 p3 => numM t len r3 0 (nI (2 ^ V - 1)) (31 + P) 59 p3
def kdF (w : Int32) : Int32 := if w = 112 then 1 else if w = 99 then 2 else if w = 113 then 3 else if w = 109 then 4 else if w = 100 then 5 else 0
theorem shV1 : ∀ V, V < 4 → (1 : Int32) <<< (nI V &&& 31) - 1 = nI (2 ^ V - 1) := fun V h => co_dec (P := fun V => (1 : Int32) <<< (nI V &&& 31) - 1 = nI (2 ^ V - 1)) (by decide +kernel) h
def kitL (t : Nat → Int32) (len : Nat) : Nat → (Nat → Int32) → Nat → Nat → Nat → PR
  | 0, _, _, _, _ => .inl (0, 0)
  | f + 1, rd, V, P, p =>
    if tkT t len p = 3 then .inr (rd, p)
    else if tkT t len p = 1 then
      (if ¬ kdF (tkW t len p) = 0 then bindPR (panM t len rd V P (kdF (tkW t len p)) p) fun rd' q => kitL t len f rd' V (P + 1) q
       else if tkW t len p = 115 then bindPR (sngM t len rd V P p) fun rd' q => kitL t len f rd' (V + 1) P q
       else .inl (1, p))
    else .inl (1, p)
/-- a whole text -/
def kitP (t : Nat → Int32) (len : Nat) (rd : Nat → Int32) : PR :=
  bindPR (takeP t len rd 106 0) fun r1 p1 => bindPR (numM t len r1 1 9 0 59 p1) fun r2 p2 => kitL t len (len + 1 - p2) r2 0 0 p2
theorem sngM_r {t : Nat → Int32} {len : Nat} {rd rd' : Nat → Int32} {V P p q : Nat} (hV : V ≤ 3) (hp : p ≤ len) (hs : ¬ tkT t len p = 3) (h : sngM t len rd V P p = .inr (rd', q)) : V < 3 ∧ rd' 1 = nI (V + 1) ∧ rd' 2 = rd 2 ∧ p < q ∧ q ≤ len := by
  unfold sngM at h
  split at h
  · cases h
  · rename_i hn
    have h0 := tkQ_le (t := t) hp
    have h00 := tkQ_gt (t := t) hp hs
    rcases hx : numM t len (upd rd 1 (nI (V + 1))) 0 6 (4 + V) 44 (tkQ t len p) with ⟨e, z⟩ | ⟨r2, p2⟩
    · rw [bind_l hx] at h; cases h
    rw [bind_r hx] at h
    obtain ⟨a1, -, -, a2, a3⟩ := numM_r h0.2 hx
    rcases hy : numM t len r2 (r2 (4 + V)) 6 (7 + V) 44 p2 with ⟨e, z⟩ | ⟨r3, p3⟩
    · rw [bind_l hy] at h; cases h
    rw [bind_r hy] at h
    obtain ⟨b1, -, -, b2, b3⟩ := numM_r a3 hy
    obtain ⟨c1, -, -, c2, c3⟩ := numM_r b3 h
    refine ⟨by omega, ?_, ?_, by omega, c3⟩
    · rw [c1, upd_n _ _ (by omega), b1, upd_n _ _ (by omega), a1, upd_n _ _ (by omega), upd_s]
    · rw [c1, upd_n _ _ (by omega), b1, upd_n _ _ (by omega), a1, upd_n _ _ (by omega), upd_n _ _ (by omega)]
theorem panM_r {t : Nat → Int32} {len : Nat} {rd rd' : Nat → Int32} {V P p q : Nat} {kd : Int32} (hP : P ≤ 5) (hp : p ≤ len) (hs : ¬ tkT t len p = 3) (h : panM t len rd V P kd p = .inr (rd', q)) : P < 5 ∧ rd' 1 = rd 1 ∧ rd' 2 = nI (P + 1) ∧ p < q ∧ q ≤ len := by
  unfold panM at h
  split at h
  · cases h
  · rename_i hn
    have h0 := tkQ_le (t := t) hp
    have h00 := tkQ_gt (t := t) hp hs
    rcases hx : numM t len (upd (upd (upd rd (16 + P) kd) (46 + P) (-1000000)) 2 (nI (P + 1))) 0 127 (21 + P) 44 (tkQ t len p) with ⟨e, z⟩ | ⟨r2, p2⟩
    · rw [bind_l hx] at h; cases h
    rw [bind_r hx] at h
    obtain ⟨a1, -, -, a2, a3⟩ := numM_r h0.2 hx
    rcases hy : numM t len r2 1 20 (26 + P) 44 p2 with ⟨e, z⟩ | ⟨r3, p3⟩
    · rw [bind_l hy] at h; cases h
    rw [bind_r hy] at h
    obtain ⟨b1, -, -, b2, b3⟩ := numM_r a3 hy
    obtain ⟨c1, -, -, c2, c3⟩ := numM_r b3 h
    refine ⟨by omega, ?_, ?_, by omega, c3⟩
    · rw [c1, upd_n _ _ (by omega), b1, upd_n _ _ (by omega), a1, upd_n _ _ (by omega), upd_n _ _ (by omega), upd_n _ _ (by omega), upd_n _ _ (by omega)]
    · rw [c1, upd_n _ _ (by omega), b1, upd_n _ _ (by omega), a1, upd_n _ _ (by omega), upd_s]
set_option maxHeartbeats 2000000 in
set_option maxRecDepth 20000 in
theorem s_faults (m : jM) (f : Int32) : iX mX4_faults [.ref 98, .int f] m (fun v m1 => v = 0 ∧ jst m 98 14 f = m1) := by
  refine jX_of (L := [some (.ref 98), some (.int f)]) 0 rfl rfl (by decide +kernel) rfl ?_
  refine e_aload_n dX4_faults_0 rfl ?_
  refine e_iload_n dX4_faults_1 rfl ?_
  refine e_putI dX4_faults_2 lkX4_108 rfl rfl fwX4_14 (Or.inl rfl) (fun ma hma => ?_)
  refine e_iconst (v := 0) dX4_faults_5 rfl ?_
  exact e_zret dX4_faults_6 rfl (by decide) (⟨rfl, hma.symm⟩)

set_option maxHeartbeats 2000000 in
set_option maxRecDepth 20000 in
theorem s_isLetter (m : jM) (c : Int32) : iX mX4_isLetter [.ref 98, .int c] m (fun v m1 => m = m1 ∧ isB v (m 98 11 = 1 ∧ m 98 12 = c)) := by
  refine jX_of (L := [some (.ref 98), some (.int c)]) 0 rfl rfl (by decide +kernel) rfl ?_
  refine e_aload_n dX4_isLetter_0 rfl ?_
  refine e_getI dX4_isLetter_1 lkX4_94 rfl rfl ?_
  refine e_iconst (v := 1) dX4_isLetter_4 rfl ?_
  refine e_icmp_ne 20 dX4_isLetter_5 (by decide) (fun c5 => ?_) (fun c5 => ?_)
  · refine e_iconst (v := 0) dX4_isLetter_20 rfl ?_
    exact e_zret dX4_isLetter_21 rfl (by decide) (⟨rfl, by first | exact isB.t ⟨c5, c13⟩ | exact isB.f (fun z => c13 z.2) | exact isB.f (fun z => c5 z.1)⟩)
  · refine e_aload_n dX4_isLetter_8 rfl ?_
    refine e_getI dX4_isLetter_9 lkX4_97 rfl rfl ?_
    refine e_iload_n dX4_isLetter_12 rfl ?_
    refine e_icmp_ne 20 dX4_isLetter_13 (by decide) (fun c13 => ?_) (fun c13 => ?_)
    · refine e_iconst (v := 0) dX4_isLetter_20 rfl ?_
      exact e_zret dX4_isLetter_21 rfl (by decide) (⟨rfl, by first | exact isB.t ⟨c5, c13⟩ | exact isB.f (fun z => c13 z.2) | exact isB.f (fun z => c5 z.1)⟩)
    · refine e_iconst (v := 1) dX4_isLetter_16 rfl ?_
      refine e_goto 21 dX4_isLetter_17 (by decide) ?_
      exact e_zret dX4_isLetter_21 rfl (by decide) (⟨rfl, by first | exact isB.t ⟨c5, c13⟩ | exact isB.f (fun z => c13 z.2) | exact isB.f (fun z => c5 z.1)⟩)

theorem pf_fault {m m1 : jM} {f : Int32} (h : jst m 98 14 f = m1) : PF m m1 ∧ m1 98 14 = f ∧ m1 98 13 = m 98 13 := by
  subst h
  refine ⟨⟨fun c a b => jst_n _ _ _ a, fun g a => ?_⟩, by rw [jst_s, upd_s], by rw [jst_s, upd_n _ _ (by decide)]⟩
  rw [jst_s, upd_n _ _ (by omega)]

set_option maxHeartbeats 2000000 in
set_option maxRecDepth 20000 in
theorem s_takes (m : jM) (len p : Nat) (hl : len ≤ 120) (htk : tokAt m len p) (c : Int32) : iX mX4_takes [.ref 98, .int c] m (fun v m1 => prQ m len (takeP (m 104) len (m 105) c p) v m1) := by
  obtain ⟨hp, k13, k11, k12, k10, k8⟩ := htk
  refine jX_of (L := [some (.ref 98), some (.int c)]) 0 rfl rfl (by decide +kernel) rfl ?_
  refine e_aload_n dX4_takes_0 rfl ?_
  refine e_iload_n dX4_takes_1 rfl ?_
  refine e_callVi (n := 1) mX4_isLetter [.int c] dX4_takes_2 ckX4_111 rfl (by decide +kernel) rfl rfl rfl rfl (Nat.le_of_ble_eq_true rfl) ⟨Nat.zero_le _, Nat.zero_le _⟩ (s_isLetter m c) (fun v2 m1 hm1 => ?_)
  rcases hm1 with ⟨rfl, ⟨rfl, q⟩ | ⟨rfl, q⟩⟩
  · refine e_if_ne 14 dX4_takes_5 (by decide) (fun c5 => ?_) (fun h => absurd h (by decide))
    refine e_aload_n dX4_takes_14 rfl ?_
    refine e_callVv (n := 0) mX4_nextToken [] dX4_takes_15 ckX4_117 rfl (by decide +kernel) rfl rfl rfl rfl (Nat.le_of_ble_eq_true rfl) ⟨Nat.zero_le _, Nat.zero_le _⟩ (s_next m len (tkQ (m 104) len p) hl (tkQ_le hp).2 k8 k10) (fun mn hmn => ?_)
    refine e_iconst (v := 1) dX4_takes_18 rfl ?_
    exact e_zret dX4_takes_19 rfl (by decide) (by
        obtain ⟨f1, f2, f3⟩ := tok_next (tkQ_le hp).2 k8 hmn
        refine ⟨f1, Or.inr ⟨m 105, tkQ (m 104) len p, ?_, rfl, f2, f3⟩⟩
        unfold takeP
        rw [k11, k12] at q
        exact if_pos q)
  · refine e_if_ne 14 dX4_takes_5 (by decide) (fun h => absurd h (by decide)) (fun c5 => ?_)
    refine e_aload_n dX4_takes_8 rfl ?_
    refine e_iconst (v := 1) dX4_takes_9 rfl ?_
    refine e_callVi (n := 1) mX4_faults [.int 1] dX4_takes_10 ckX4_114 rfl (by decide +kernel) rfl rfl rfl rfl (Nat.le_of_ble_eq_true rfl) ⟨Nat.zero_le _, Nat.zero_le _⟩ (s_faults m 1) (fun v10 mf hmf => ?_)
    obtain ⟨rfl, hf⟩ := hmf
    exact e_zret dX4_takes_13 rfl (by decide) (by
        obtain ⟨f1, f2, f3⟩ := pf_fault hf
        refine ⟨f1, Or.inl ⟨1, p, ?_, rfl, f2, f3.trans k13⟩⟩
        unfold takeP
        rw [k11, k12] at q
        exact if_neg q)

set_option maxHeartbeats 2000000 in
set_option maxRecDepth 20000 in
theorem s_takesNumber (m : jM) (len p : Nat) (hl : len ≤ 120) (htk : tokAt m len p) (lo hi : Int32) (a : Nat) (ha : a < 51) (c : Int32) : iX mX4_takesNumber [.ref 98, .int lo, .int hi, .int (nI a), .int c] m (fun v m1 => prQ m len (numM (m 104) len (m 105) lo hi a c p) v m1) := by
  obtain ⟨hp, k13, k11, k12, k10, k8⟩ := htk
  refine jX_of (L := [some (.ref 98), some (.int lo), some (.int hi), some (.int (nI a)), some (.int c)]) 0 rfl rfl (by decide +kernel) rfl ?_
  refine e_aload_n dX4_takesNumber_0 rfl ?_
  refine e_getI dX4_takesNumber_1 lkX4_94 rfl rfl ?_
  rw [show m 98 11 = tkT (m 104) len p from k11]
  refine e_iconst (v := 2) dX4_takesNumber_4 rfl ?_
  refine e_icmp_ne 23 dX4_takesNumber_5 (by decide) (fun c5 => ?_) (fun c5 => ?_)
  · refine e_aload_n dX4_takesNumber_23 rfl ?_
    refine e_aload_n dX4_takesNumber_24 rfl ?_
    refine e_getI dX4_takesNumber_25 lkX4_94 rfl rfl ?_
    rw [show m 98 11 = tkT (m 104) len p from k11]
    refine e_iconst (v := 2) dX4_takesNumber_28 rfl ?_
    refine e_icmp_ne 36 dX4_takesNumber_29 (by decide) (fun c29 => ?_) (fun c29 => ?_)
    · refine e_iconst (v := 1) dX4_takesNumber_36 rfl ?_
      refine e_callVi (n := 1) mX4_faults [.int 1] dX4_takesNumber_37 ckX4_114 rfl (by decide +kernel) rfl rfl rfl rfl (Nat.le_of_ble_eq_true rfl) ⟨Nat.zero_le _, Nat.zero_le _⟩ (s_faults m 1) (fun v37 mf hmf => ?_)
      obtain ⟨rfl, hf⟩ := hmf
      exact e_zret dX4_takesNumber_40 rfl (by decide) (by
        obtain ⟨f1, f2, f3⟩ := pf_fault hf
        refine ⟨f1, Or.inl ⟨_, p, ?_, rfl, f2, f3.trans k13⟩⟩
        unfold numM
        first | exact absurd c5 c29 | exact absurd c29 c5 | rw [if_neg c5] | rw [if_pos c5, if_neg q])
    · refine e_iconst (v := 2) dX4_takesNumber_32 rfl ?_
      refine e_goto 37 dX4_takesNumber_33 (by decide) ?_
      refine e_callVi (n := 1) mX4_faults [.int 2] dX4_takesNumber_37 ckX4_114 rfl (by decide +kernel) rfl rfl rfl rfl (Nat.le_of_ble_eq_true rfl) ⟨Nat.zero_le _, Nat.zero_le _⟩ (s_faults m 2) (fun v37 mf hmf => ?_)
      obtain ⟨rfl, hf⟩ := hmf
      exact e_zret dX4_takesNumber_40 rfl (by decide) (by
        obtain ⟨f1, f2, f3⟩ := pf_fault hf
        refine ⟨f1, Or.inl ⟨_, p, ?_, rfl, f2, f3.trans k13⟩⟩
        unfold numM
        first | exact absurd c5 c29 | exact absurd c29 c5 | rw [if_neg c5] | rw [if_pos c5, if_neg q])
  · refine e_aload_n dX4_takesNumber_8 rfl ?_
    refine e_getI dX4_takesNumber_9 lkX4_97 rfl rfl ?_
    rw [show m 98 12 = tkW (m 104) len p from k12]
    refine e_i2l dX4_takesNumber_12 ?_
    refine e_iload_n dX4_takesNumber_13 rfl ?_
    refine e_i2l dX4_takesNumber_14 ?_
    refine e_iload_n dX4_takesNumber_15 rfl ?_
    refine e_i2l dX4_takesNumber_16 ?_
    refine e_callSi (n := 3) mX4_in [.long (Int32.toInt64 (tkW (m 104) len p)), .long (Int32.toInt64 lo), .long (Int32.toInt64 hi)] dX4_takesNumber_17 ckX4_60 rfl (by decide +kernel) rfl rfl (Nat.le_of_ble_eq_true rfl) ⟨Nat.zero_le _, Nat.zero_le _⟩ (s_in32 (tkW (m 104) len p) lo hi m) (fun v17 m3 hm3 => ?_)
    rcases hm3 with ⟨rfl, ⟨rfl, q⟩ | ⟨rfl, q⟩⟩
    · refine e_if_ne 41 dX4_takesNumber_20 (by decide) (fun c20 => ?_) (fun h => absurd h (by decide))
      refine e_aload_n dX4_takesNumber_41 rfl ?_
      refine e_getR (o := 7) (b := 105) dX4_takesNumber_42 lkX4_28 rfl rfl (by decide) rfl ?_
      refine e_iload_n dX4_takesNumber_45 rfl ?_
      refine e_aload_n dX4_takesNumber_46 rfl ?_
      refine e_getI dX4_takesNumber_47 lkX4_97 rfl rfl ?_
      rw [show m 98 12 = tkW (m 104) len p from k12]
      refine e_iast dX4_takesNumber_50 rfl a rfl (by omega) (by decide) (fun ma hma => ?_)
      refine e_aload_n dX4_takesNumber_51 rfl ?_
      refine e_callVv (n := 0) mX4_nextToken [] dX4_takesNumber_52 ckX4_117 rfl (by decide +kernel) rfl rfl rfl rfl (Nat.le_of_ble_eq_true rfl) ⟨Nat.zero_le _, Nat.zero_le _⟩ (s_next ma len (tkQ (m 104) len p) hl (tkQ_le hp).2 (by rw [hma, jup_n _ _ (by decide)]; exact k8) (by rw [hma, jup_n _ _ (by decide)]; exact k10)) (fun mn hmn => ?_)
      have g104 : ma 104 = m 104 := by rw [hma, jup_n _ _ (by decide)]
      obtain ⟨f1, f2, f3⟩ := tok_next (tkQ_le hp).2 (by rw [hma, jup_n _ _ (by decide)]; exact k8) hmn
      have f0 : PF m ma := ⟨fun c a b => by rw [hma, jup_n _ _ b], fun f a => by rw [hma, jup_n _ _ (by decide)]⟩
      refine e_aload_n dX4_takesNumber_55 rfl ?_
      refine e_iload dX4_takesNumber_56 rfl ?_
      refine e_callVi (n := 1) mX4_takes [.int c] dX4_takesNumber_58 ckX4_120 rfl (by decide +kernel) rfl rfl rfl rfl (Nat.le_of_ble_eq_true rfl) ⟨Nat.zero_le _, Nat.zero_le _⟩ (s_takes mn len (tkQ (m 104) len p) hl f3 c) (fun v58 me hme => ?_)
      obtain ⟨z1, z2⟩ := hme
      exact e_zret dX4_takesNumber_61 rfl (by rcases z2 with ⟨e, q, -, hv, -⟩ | ⟨e, q, -, hv, -⟩ <;> simp [hv]) (by
        refine ⟨f0.tr (f1.tr z1), ?_⟩
        have en : numM (m 104) len (m 105) lo hi a c p = takeP (mn 104) len (mn 105) c (tkQ (m 104) len p) := by
          unfold numM
          rw [if_pos c5, if_pos q, f1.t, g104, f2, hma, jup_s]
        rw [en]
        exact z2)
    · refine e_if_ne 41 dX4_takesNumber_20 (by decide) (fun h => absurd h (by decide)) (fun c20 => ?_)
      refine e_aload_n dX4_takesNumber_23 rfl ?_
      refine e_aload_n dX4_takesNumber_24 rfl ?_
      refine e_getI dX4_takesNumber_25 lkX4_94 rfl rfl ?_
      rw [show m 98 11 = tkT (m 104) len p from k11]
      refine e_iconst (v := 2) dX4_takesNumber_28 rfl ?_
      refine e_icmp_ne 36 dX4_takesNumber_29 (by decide) (fun c29 => ?_) (fun c29 => ?_)
      · refine e_iconst (v := 1) dX4_takesNumber_36 rfl ?_
        refine e_callVi (n := 1) mX4_faults [.int 1] dX4_takesNumber_37 ckX4_114 rfl (by decide +kernel) rfl rfl rfl rfl (Nat.le_of_ble_eq_true rfl) ⟨Nat.zero_le _, Nat.zero_le _⟩ (s_faults m 1) (fun v37 mf hmf => ?_)
        obtain ⟨rfl, hf⟩ := hmf
        exact e_zret dX4_takesNumber_40 rfl (by decide) (by
        obtain ⟨f1, f2, f3⟩ := pf_fault hf
        refine ⟨f1, Or.inl ⟨_, p, ?_, rfl, f2, f3.trans k13⟩⟩
        unfold numM
        first | exact absurd c5 c29 | exact absurd c29 c5 | rw [if_neg c5] | rw [if_pos c5, if_neg q])
      · refine e_iconst (v := 2) dX4_takesNumber_32 rfl ?_
        refine e_goto 37 dX4_takesNumber_33 (by decide) ?_
        refine e_callVi (n := 1) mX4_faults [.int 2] dX4_takesNumber_37 ckX4_114 rfl (by decide +kernel) rfl rfl rfl rfl (Nat.le_of_ble_eq_true rfl) ⟨Nat.zero_le _, Nat.zero_le _⟩ (s_faults m 2) (fun v37 mf hmf => ?_)
        obtain ⟨rfl, hf⟩ := hmf
        exact e_zret dX4_takesNumber_40 rfl (by decide) (by
        obtain ⟨f1, f2, f3⟩ := pf_fault hf
        refine ⟨f1, Or.inl ⟨_, p, ?_, rfl, f2, f3.trans k13⟩⟩
        unfold numM
        first | exact absurd c5 c29 | exact absurd c29 c5 | rw [if_neg c5] | rw [if_pos c5, if_neg q])

set_option maxHeartbeats 2000000 in
set_option maxRecDepth 20000 in
theorem s_readSinger (m : jM) (len p : Nat) (hl : len ≤ 120) (htk : tokAt m len p) (V P : Nat) (hV : V ≤ 3) (hP : P ≤ 5) (r1 : m 105 1 = nI V) (r2 : m 105 2 = nI P) : iX mX4_readSinger [.ref 98] m (fun v m1 => prQ m len (sngM (m 104) len (m 105) V P p) v m1) := by
  obtain ⟨hp, k13, k11, k12, k10, k8⟩ := htk
  refine jX_of (L := [some (.ref 98), none]) 1 rfl rfl (by decide +kernel) rfl ?_
  refine e_aload_n dX4_readSinger_0 rfl ?_
  refine e_getR (o := 7) (b := 105) dX4_readSinger_1 lkX4_28 rfl rfl (by decide) rfl ?_
  refine e_iconst (v := 1) dX4_readSinger_4 rfl ?_
  refine e_iald dX4_readSinger_5 rfl 1 rfl (by decide) (by decide) ?_
  rw [show m 105 1 = nI V from r1]
  refine e_istore_n (L' := [some (.ref 98), some (.int (nI V))]) dX4_readSinger_6 (Nat.le_of_ble_eq_true rfl) (Nat.le_of_ble_eq_true rfl) (jnl_at (i := 0) rfl) rfl ?_
  refine e_iload_n dX4_readSinger_7 rfl ?_
  refine e_iconst (v := 3) dX4_readSinger_8 rfl ?_
  refine e_icmp_eq 21 dX4_readSinger_9 (by decide) (fun c9 => ?_) (fun c9 => ?_)
  · have hV3 : V = 3 := (j_eq (a := V) (b := 3) (by omega) (by decide)).mp c9
    refine e_aload_n dX4_readSinger_21 rfl ?_
    refine e_aload_n dX4_readSinger_22 rfl ?_
    refine e_getR (o := 7) (b := 105) dX4_readSinger_23 lkX4_28 rfl rfl (by decide) rfl ?_
    refine e_iconst (v := 2) dX4_readSinger_26 rfl ?_
    refine e_iald dX4_readSinger_27 rfl 2 rfl (by decide) (by decide) ?_
    rw [show m 105 2 = nI P from r2]
    refine e_if_le 35 dX4_readSinger_28 (by decide) (fun c28 => ?_) (fun c28 => ?_)
    · have hP1 : ¬ 0 < P := by have := (j_le (a := P) (b := 0) (by omega) (by decide)).mp c28; omega
      refine e_iconst (v := 3) dX4_readSinger_35 rfl ?_
      refine e_callVi (n := 1) mX4_faults [.int 3] dX4_readSinger_36 ckX4_114 rfl (by decide +kernel) rfl rfl rfl rfl (Nat.le_of_ble_eq_true rfl) ⟨Nat.zero_le _, Nat.zero_le _⟩ (s_faults m 3) (fun v36 mf hmf => ?_)
      obtain ⟨rfl, hf⟩ := hmf
      exact e_zret dX4_readSinger_39 rfl (by decide) (by
        obtain ⟨f1, f2, f3⟩ := pf_fault hf
        refine ⟨f1, Or.inl ⟨_, p, ?_, rfl, f2, f3.trans k13⟩⟩
        unfold sngM
        first | (rw [if_pos (Or.inl hV3)]; first | rw [if_pos hP1] | rw [if_neg hP1]) | (rw [if_pos (Or.inr hP0)]; first | rw [if_pos hP1] | exact absurd hP0 hP1))
    · have hP1 : 0 < P := (j_lt (a := 0) (b := P) (by decide) (by omega)).mp (Int32.not_le.mp c28)
      refine e_iconst (v := 1) dX4_readSinger_31 rfl ?_
      refine e_goto 36 dX4_readSinger_32 (by decide) ?_
      refine e_callVi (n := 1) mX4_faults [.int 1] dX4_readSinger_36 ckX4_114 rfl (by decide +kernel) rfl rfl rfl rfl (Nat.le_of_ble_eq_true rfl) ⟨Nat.zero_le _, Nat.zero_le _⟩ (s_faults m 1) (fun v36 mf hmf => ?_)
      obtain ⟨rfl, hf⟩ := hmf
      exact e_zret dX4_readSinger_39 rfl (by decide) (by
        obtain ⟨f1, f2, f3⟩ := pf_fault hf
        refine ⟨f1, Or.inl ⟨_, p, ?_, rfl, f2, f3.trans k13⟩⟩
        unfold sngM
        first | (rw [if_pos (Or.inl hV3)]; first | rw [if_pos hP1] | rw [if_neg hP1]) | (rw [if_pos (Or.inr hP0)]; first | rw [if_pos hP1] | exact absurd hP0 hP1))
  · have hV3 : ¬ V = 3 := fun z => c9 (by rw [z]; rfl)
    refine e_aload_n dX4_readSinger_12 rfl ?_
    refine e_getR (o := 7) (b := 105) dX4_readSinger_13 lkX4_28 rfl rfl (by decide) rfl ?_
    refine e_iconst (v := 2) dX4_readSinger_16 rfl ?_
    refine e_iald dX4_readSinger_17 rfl 2 rfl (by decide) (by decide) ?_
    rw [show m 105 2 = nI P from r2]
    refine e_if_le 40 dX4_readSinger_18 (by decide) (fun c18 => ?_) (fun c18 => ?_)
    · have hP0 : ¬ 0 < P := by have := (j_le (a := P) (b := 0) (by omega) (by decide)).mp c18; omega
      refine e_aload_n dX4_readSinger_40 rfl ?_
      refine e_callVv (n := 0) mX4_nextToken [] dX4_readSinger_41 ckX4_117 rfl (by decide +kernel) rfl rfl rfl rfl (Nat.le_of_ble_eq_true rfl) ⟨Nat.zero_le _, Nat.zero_le _⟩ (s_next m len (tkQ (m 104) len p) hl (tkQ_le hp).2 k8 k10) (fun mn hmn => ?_)
      obtain ⟨f1, f2, f3⟩ := tok_next (tkQ_le hp).2 k8 hmn
      refine e_aload_n dX4_readSinger_44 rfl ?_
      refine e_getR (o := 7) (b := 105) dX4_readSinger_45 lkX4_28 rfl rfl (by decide) rfl ?_
      refine e_iconst (v := 1) dX4_readSinger_48 rfl ?_
      refine e_dup2 dX4_readSinger_49 rfl rfl ?_
      refine e_iald dX4_readSinger_50 rfl 1 rfl (by decide) (by decide) ?_
      rw [show mn 105 1 = nI V from by rw [f2, r1]]
      refine e_iconst (v := 1) dX4_readSinger_51 rfl ?_
      refine e_iadd dX4_readSinger_52 ?_
      rw [show (nI V) + 1 = nI (V + 1) from nI_1 V]
      refine e_iast dX4_readSinger_53 rfl 1 rfl (by decide) (by decide) (fun mb hmb => ?_)
      have gb : mb 105 = upd (m 105) 1 (nI (V + 1)) := by rw [hmb, jup_s, f2]
      have fb0 : PF mn mb := ⟨fun c a b => by rw [hmb, jup_n _ _ b], fun f a => by rw [hmb, jup_n _ _ (by decide)]⟩
      have fb : PF m mb := f1.tr fb0
      have tb : tokAt mb len (tkQ (m 104) len p) := by
        obtain ⟨t1, t2, t3, t4, t5, t6⟩ := f3
        have e98 : mb 98 = mn 98 := by rw [hmb, jup_n _ _ (by decide)]
        have e104 : mb 104 = mn 104 := by rw [hmb, jup_n _ _ (by decide)]
        exact ⟨t1, by rw [e98]; exact t2, by rw [e98, e104]; exact t3, by rw [e98, e104]; exact t4, by rw [e98, e104]; exact t5, by rw [e98]; exact t6⟩
      refine e_aload_n dX4_readSinger_54 rfl ?_
      refine e_iconst (v := 0) dX4_readSinger_55 rfl ?_
      refine e_bipush (v := 6) dX4_readSinger_56 rfl ?_
      refine e_iconst (v := 4) dX4_readSinger_58 rfl ?_
      refine e_iload_n dX4_readSinger_59 rfl ?_
      refine e_iadd dX4_readSinger_60 ?_
      rw [show 4 + (nI V) = nI (4 + V) from (j_add rfl rfl)]
      refine e_bipush (v := 44) dX4_readSinger_61 rfl ?_
      refine e_callVi (n := 4) mX4_takesNumber [.int 0, .int 6, .int (nI (4 + V)), .int 44] dX4_readSinger_63 ckX4_123 rfl (by decide +kernel) rfl rfl rfl rfl (Nat.le_of_ble_eq_true rfl) ⟨Nat.zero_le _, Nat.zero_le _⟩ (s_takesNumber mb len (tkQ (m 104) len p) hl tb 0 6 (4 + V) (by omega) 44) (fun v63 mtA hmtA => ?_)
      rcases hmtA with ⟨pfA, ⟨eA, qA, hrA, rfl, heA, hqA⟩ | ⟨rdA, qA, hrA, rfl, hrdA, htokA⟩⟩
      · have en1 : numM (mb 104) len (mb 105) 0 6 (4 + V) 44 (tkQ (m 104) len p) = numM (m 104) len (upd (m 105) 1 (nI (V + 1))) 0 6 (4 + V) 44 (tkQ (m 104) len p) := by rw [fb.t, gb]
        rw [en1] at hrA
        have hnot : ¬ (V = 3 ∨ 0 < P) := by omega
        refine e_if_eq 112 dX4_readSinger_66 (by decide) (fun c66 => ?_) (fun h => absurd h (by decide))
        refine e_iconst (v := 0) dX4_readSinger_112 rfl ?_
        exact e_zret dX4_readSinger_113 rfl (by decide) (by
        unfold sngM
        rw [if_neg hnot]
        refine ⟨fb.tr pfA, Or.inl ⟨eA, qA, bind_l hrA, rfl, heA, hqA⟩⟩)
      · have en1 : numM (mb 104) len (mb 105) 0 6 (4 + V) 44 (tkQ (m 104) len p) = numM (m 104) len (upd (m 105) 1 (nI (V + 1))) 0 6 (4 + V) 44 (tkQ (m 104) len p) := by rw [fb.t, gb]
        rw [en1] at hrA
        have hnot : ¬ (V = 3 ∨ 0 < P) := by omega
        refine e_if_eq 112 dX4_readSinger_66 (by decide) (fun h => absurd h (by decide)) (fun c66 => ?_)
        refine e_aload_n dX4_readSinger_69 rfl ?_
        refine e_aload_n dX4_readSinger_70 rfl ?_
        refine e_getR (o := 7) (b := 105) dX4_readSinger_71 lkX4_28 rfl rfl (by decide) rfl ?_
        refine e_iconst (v := 4) dX4_readSinger_74 rfl ?_
        refine e_iload_n dX4_readSinger_75 rfl ?_
        refine e_iadd dX4_readSinger_76 ?_
        refine e_iald dX4_readSinger_77 rfl (4 + V) (j_add rfl rfl) (by omega) (by decide) ?_
        rw [show mtA 105 (4 + V) = rdA (4 + V) from by rw [hrdA]]
        refine e_bipush (v := 6) dX4_readSinger_78 rfl ?_
        refine e_bipush (v := 7) dX4_readSinger_80 rfl ?_
        refine e_iload_n dX4_readSinger_82 rfl ?_
        refine e_iadd dX4_readSinger_83 ?_
        rw [show 7 + (nI V) = nI (7 + V) from (j_add rfl rfl)]
        refine e_bipush (v := 44) dX4_readSinger_84 rfl ?_
        refine e_callVi (n := 4) mX4_takesNumber [.int (rdA (4 + V)), .int 6, .int (nI (7 + V)), .int 44] dX4_readSinger_86 ckX4_123 rfl (by decide +kernel) rfl rfl rfl rfl (Nat.le_of_ble_eq_true rfl) ⟨Nat.zero_le _, Nat.zero_le _⟩ (s_takesNumber mtA len qA hl htokA (rdA (4 + V)) 6 (7 + V) (by omega) 44) (fun v86 mtB hmtB => ?_)
        rcases hmtB with ⟨pfB, ⟨eB, qB, hrB, rfl, heB, hqB⟩ | ⟨rdB, qB, hrB, rfl, hrdB, htokB⟩⟩
        · rw [pfA.t, fb.t, hrdA] at hrB
          refine e_if_eq 112 dX4_readSinger_89 (by decide) (fun c89 => ?_) (fun h => absurd h (by decide))
          refine e_iconst (v := 0) dX4_readSinger_112 rfl ?_
          exact e_zret dX4_readSinger_113 rfl (by decide) (by
        unfold sngM
        rw [if_neg hnot]
        rw [bind_r hrA]
        refine ⟨fb.tr (pfA.tr pfB), Or.inl ⟨eB, qB, bind_l hrB, rfl, heB, hqB⟩⟩)
        · rw [pfA.t, fb.t, hrdA] at hrB
          refine e_if_eq 112 dX4_readSinger_89 (by decide) (fun h => absurd h (by decide)) (fun c89 => ?_)
          refine e_aload_n dX4_readSinger_92 rfl ?_
          refine e_iconst (v := 1) dX4_readSinger_93 rfl ?_
          refine e_bipush (v := 9) dX4_readSinger_94 rfl ?_
          refine e_bipush (v := 10) dX4_readSinger_96 rfl ?_
          refine e_iload_n dX4_readSinger_98 rfl ?_
          refine e_iadd dX4_readSinger_99 ?_
          rw [show 10 + (nI V) = nI (10 + V) from (j_add rfl rfl)]
          refine e_bipush (v := 59) dX4_readSinger_100 rfl ?_
          refine e_callVi (n := 4) mX4_takesNumber [.int 1, .int 9, .int (nI (10 + V)), .int 59] dX4_readSinger_102 ckX4_123 rfl (by decide +kernel) rfl rfl rfl rfl (Nat.le_of_ble_eq_true rfl) ⟨Nat.zero_le _, Nat.zero_le _⟩ (s_takesNumber mtB len qB hl htokB 1 9 (10 + V) (by omega) 59) (fun v102 mtC hmtC => ?_)
          rcases hmtC with ⟨pfC, ⟨eC, qC, hrC, rfl, heC, hqC⟩ | ⟨rdC, qC, hrC, rfl, hrdC, htokC⟩⟩
          · rw [pfB.t, pfA.t, fb.t, hrdB] at hrC
            refine e_if_eq 112 dX4_readSinger_105 (by decide) (fun c105 => ?_) (fun h => absurd h (by decide))
            refine e_iconst (v := 0) dX4_readSinger_112 rfl ?_
            exact e_zret dX4_readSinger_113 rfl (by decide) (by
        unfold sngM
        rw [if_neg hnot]
        rw [bind_r hrA, bind_r hrB]
        refine ⟨fb.tr (pfA.tr (pfB.tr pfC)), ?_⟩
        first | exact Or.inl ⟨eC, qC, hrC, rfl, heC, hqC⟩ | exact Or.inr ⟨rdC, qC, hrC, rfl, hrdC, htokC⟩)
          · rw [pfB.t, pfA.t, fb.t, hrdB] at hrC
            refine e_if_eq 112 dX4_readSinger_105 (by decide) (fun h => absurd h (by decide)) (fun c105 => ?_)
            refine e_iconst (v := 1) dX4_readSinger_108 rfl ?_
            refine e_goto 113 dX4_readSinger_109 (by decide) ?_
            exact e_zret dX4_readSinger_113 rfl (by decide) (by
        unfold sngM
        rw [if_neg hnot]
        rw [bind_r hrA, bind_r hrB]
        refine ⟨fb.tr (pfA.tr (pfB.tr pfC)), ?_⟩
        first | exact Or.inl ⟨eC, qC, hrC, rfl, heC, hqC⟩ | exact Or.inr ⟨rdC, qC, hrC, rfl, hrdC, htokC⟩)
    · have hP0 : 0 < P := (j_lt (a := 0) (b := P) (by decide) (by omega)).mp (Int32.not_le.mp c18)
      refine e_aload_n dX4_readSinger_21 rfl ?_
      refine e_aload_n dX4_readSinger_22 rfl ?_
      refine e_getR (o := 7) (b := 105) dX4_readSinger_23 lkX4_28 rfl rfl (by decide) rfl ?_
      refine e_iconst (v := 2) dX4_readSinger_26 rfl ?_
      refine e_iald dX4_readSinger_27 rfl 2 rfl (by decide) (by decide) ?_
      rw [show m 105 2 = nI P from r2]
      refine e_if_le 35 dX4_readSinger_28 (by decide) (fun c28 => ?_) (fun c28 => ?_)
      · have hP1 : ¬ 0 < P := by have := (j_le (a := P) (b := 0) (by omega) (by decide)).mp c28; omega
        refine e_iconst (v := 3) dX4_readSinger_35 rfl ?_
        refine e_callVi (n := 1) mX4_faults [.int 3] dX4_readSinger_36 ckX4_114 rfl (by decide +kernel) rfl rfl rfl rfl (Nat.le_of_ble_eq_true rfl) ⟨Nat.zero_le _, Nat.zero_le _⟩ (s_faults m 3) (fun v36 mf hmf => ?_)
        obtain ⟨rfl, hf⟩ := hmf
        exact e_zret dX4_readSinger_39 rfl (by decide) (by
        obtain ⟨f1, f2, f3⟩ := pf_fault hf
        refine ⟨f1, Or.inl ⟨_, p, ?_, rfl, f2, f3.trans k13⟩⟩
        unfold sngM
        first | (rw [if_pos (Or.inl hV3)]; first | rw [if_pos hP1] | rw [if_neg hP1]) | (rw [if_pos (Or.inr hP0)]; first | rw [if_pos hP1] | exact absurd hP0 hP1))
      · have hP1 : 0 < P := (j_lt (a := 0) (b := P) (by decide) (by omega)).mp (Int32.not_le.mp c28)
        refine e_iconst (v := 1) dX4_readSinger_31 rfl ?_
        refine e_goto 36 dX4_readSinger_32 (by decide) ?_
        refine e_callVi (n := 1) mX4_faults [.int 1] dX4_readSinger_36 ckX4_114 rfl (by decide +kernel) rfl rfl rfl rfl (Nat.le_of_ble_eq_true rfl) ⟨Nat.zero_le _, Nat.zero_le _⟩ (s_faults m 1) (fun v36 mf hmf => ?_)
        obtain ⟨rfl, hf⟩ := hmf
        exact e_zret dX4_readSinger_39 rfl (by decide) (by
        obtain ⟨f1, f2, f3⟩ := pf_fault hf
        refine ⟨f1, Or.inl ⟨_, p, ?_, rfl, f2, f3.trans k13⟩⟩
        unfold sngM
        first | (rw [if_pos (Or.inl hV3)]; first | rw [if_pos hP1] | rw [if_neg hP1]) | (rw [if_pos (Or.inr hP0)]; first | rw [if_pos hP1] | exact absurd hP0 hP1))

set_option maxHeartbeats 2000000 in
set_option maxRecDepth 20000 in
theorem s_readPan (m : jM) (len p : Nat) (hl : len ≤ 120) (htk : tokAt m len p) (V P : Nat) (hV : V ≤ 3) (hP : P ≤ 5) (r1 : m 105 1 = nI V) (r2 : m 105 2 = nI P) (kd : Int32) : iX mX4_readPan [.ref 98, .int kd] m (fun v m1 => prQ m len (panM (m 104) len (m 105) V P kd p) v m1) := by
  obtain ⟨hp, k13, k11, k12, k10, k8⟩ := htk
  refine jX_of (L := [some (.ref 98), some (.int kd), none]) 1 rfl rfl (by decide +kernel) rfl ?_
  refine e_aload_n dX4_readPan_0 rfl ?_
  refine e_getR (o := 7) (b := 105) dX4_readPan_1 lkX4_28 rfl rfl (by decide) rfl ?_
  refine e_iconst (v := 2) dX4_readPan_4 rfl ?_
  refine e_iald dX4_readPan_5 rfl 2 rfl (by decide) (by decide) ?_
  rw [show m 105 2 = nI P from r2]
  refine e_istore_n (L' := [some (.ref 98), some (.int kd), some (.int (nI P))]) dX4_readPan_6 (Nat.le_of_ble_eq_true rfl) (Nat.le_of_ble_eq_true rfl) (jnl_at (i := 1) rfl) rfl ?_
  refine e_iload_n dX4_readPan_7 rfl ?_
  refine e_iconst (v := 5) dX4_readPan_8 rfl ?_
  refine e_icmp_ne 18 dX4_readPan_9 (by decide) (fun c9 => ?_) (fun c9 => ?_)
  · have hP5 : ¬ P = 5 := fun z => c9 (by rw [z]; rfl)
    refine e_aload_n dX4_readPan_18 rfl ?_
    refine e_callVv (n := 0) mX4_nextToken [] dX4_readPan_19 ckX4_117 rfl (by decide +kernel) rfl rfl rfl rfl (Nat.le_of_ble_eq_true rfl) ⟨Nat.zero_le _, Nat.zero_le _⟩ (s_next m len (tkQ (m 104) len p) hl (tkQ_le hp).2 k8 k10) (fun mn hmn => ?_)
    obtain ⟨f1, f2, f3⟩ := tok_next (tkQ_le hp).2 k8 hmn
    refine e_aload_n dX4_readPan_22 rfl ?_
    refine e_getR (o := 7) (b := 105) dX4_readPan_23 lkX4_28 rfl rfl (by decide) rfl ?_
    refine e_bipush (v := 16) dX4_readPan_26 rfl ?_
    refine e_iload_n dX4_readPan_28 rfl ?_
    refine e_iadd dX4_readPan_29 ?_
    refine e_iload_n dX4_readPan_30 rfl ?_
    refine e_iast dX4_readPan_31 rfl (16 + P) (j_add rfl rfl) (by omega) (by decide) (fun mb hmb => ?_)
    refine e_aload_n dX4_readPan_32 rfl ?_
    refine e_getR (o := 7) (b := 105) dX4_readPan_33 lkX4_28 rfl rfl (by decide) rfl ?_
    refine e_bipush (v := 46) dX4_readPan_36 rfl ?_
    refine e_iload_n dX4_readPan_38 rfl ?_
    refine e_iadd dX4_readPan_39 ?_
    refine e_ldc dX4_readPan_40 kkX4_127 ?_
    refine e_iast dX4_readPan_42 rfl (46 + P) (j_add rfl rfl) (by omega) (by decide) (fun mc hmc => ?_)
    refine e_aload_n dX4_readPan_43 rfl ?_
    refine e_getR (o := 7) (b := 105) dX4_readPan_44 lkX4_28 rfl rfl (by decide) rfl ?_
    refine e_iconst (v := 2) dX4_readPan_47 rfl ?_
    refine e_dup2 dX4_readPan_48 rfl rfl ?_
    refine e_iald dX4_readPan_49 rfl 2 rfl (by decide) (by decide) ?_
    rw [show mc 105 2 = nI P from by rw [hmc, jup_s, upd_n _ _ (by omega), hmb, jup_s, upd_n _ _ (by omega), f2, r2]]
    refine e_iconst (v := 1) dX4_readPan_50 rfl ?_
    refine e_iadd dX4_readPan_51 ?_
    rw [show (nI P) + 1 = nI (P + 1) from nI_1 P]
    refine e_iast dX4_readPan_52 rfl 2 rfl (by decide) (by decide) (fun md hmd => ?_)
    have gb : md 105 = upd (upd (upd (m 105) (16 + P) kd) (46 + P) (-1000000)) 2 (nI (P + 1)) := by rw [hmd, jup_s, hmc, jup_s, hmb, jup_s, f2]
    have fb0 : PF mn md := ⟨fun c a b => by rw [hmd, jup_n _ _ b, hmc, jup_n _ _ b, hmb, jup_n _ _ b], fun f a => by rw [hmd, jup_n _ _ (by decide), hmc, jup_n _ _ (by decide), hmb, jup_n _ _ (by decide)]⟩
    have fb : PF m md := f1.tr fb0
    have tb : tokAt md len (tkQ (m 104) len p) := by
      obtain ⟨t1, t2, t3, t4, t5, t6⟩ := f3
      have e98 : md 98 = mn 98 := by rw [hmd, jup_n _ _ (by decide), hmc, jup_n _ _ (by decide), hmb, jup_n _ _ (by decide)]
      have e104 : md 104 = mn 104 := by rw [hmd, jup_n _ _ (by decide), hmc, jup_n _ _ (by decide), hmb, jup_n _ _ (by decide)]
      exact ⟨t1, by rw [e98]; exact t2, by rw [e98, e104]; exact t3, by rw [e98, e104]; exact t4, by rw [e98, e104]; exact t5, by rw [e98]; exact t6⟩
    refine e_aload_n dX4_readPan_53 rfl ?_
    refine e_iconst (v := 0) dX4_readPan_54 rfl ?_
    refine e_bipush (v := 127) dX4_readPan_55 rfl ?_
    refine e_bipush (v := 21) dX4_readPan_57 rfl ?_
    refine e_iload_n dX4_readPan_59 rfl ?_
    refine e_iadd dX4_readPan_60 ?_
    rw [show 21 + (nI P) = nI (21 + P) from (j_add rfl rfl)]
    refine e_bipush (v := 44) dX4_readPan_61 rfl ?_
    refine e_callVi (n := 4) mX4_takesNumber [.int 0, .int 127, .int (nI (21 + P)), .int 44] dX4_readPan_63 ckX4_123 rfl (by decide +kernel) rfl rfl rfl rfl (Nat.le_of_ble_eq_true rfl) ⟨Nat.zero_le _, Nat.zero_le _⟩ (s_takesNumber md len (tkQ (m 104) len p) hl tb 0 127 (21 + P) (by omega) 44) (fun v63 mtA hmtA => ?_)
    rcases hmtA with ⟨pfA, ⟨eA, qA, hrA, rfl, heA, hqA⟩ | ⟨rdA, qA, hrA, rfl, hrdA, htokA⟩⟩
    · have en1 : numM (md 104) len (md 105) 0 127 (21 + P) 44 (tkQ (m 104) len p) = numM (m 104) len (upd (upd (upd (m 105) (16 + P) kd) (46 + P) (-1000000)) 2 (nI (P + 1))) 0 127 (21 + P) 44 (tkQ (m 104) len p) := by rw [fb.t, gb]
      rw [en1] at hrA
      refine e_if_eq 113 dX4_readPan_66 (by decide) (fun c66 => ?_) (fun h => absurd h (by decide))
      refine e_iconst (v := 0) dX4_readPan_113 rfl ?_
      exact e_zret dX4_readPan_114 rfl (by decide) (by
        unfold panM
        rw [if_neg hP5]
        refine ⟨fb.tr pfA, Or.inl ⟨eA, qA, bind_l hrA, rfl, heA, hqA⟩⟩)
    · have en1 : numM (md 104) len (md 105) 0 127 (21 + P) 44 (tkQ (m 104) len p) = numM (m 104) len (upd (upd (upd (m 105) (16 + P) kd) (46 + P) (-1000000)) 2 (nI (P + 1))) 0 127 (21 + P) 44 (tkQ (m 104) len p) := by rw [fb.t, gb]
      rw [en1] at hrA
      refine e_if_eq 113 dX4_readPan_66 (by decide) (fun h => absurd h (by decide)) (fun c66 => ?_)
      refine e_aload_n dX4_readPan_69 rfl ?_
      refine e_iconst (v := 1) dX4_readPan_70 rfl ?_
      refine e_bipush (v := 20) dX4_readPan_71 rfl ?_
      refine e_bipush (v := 26) dX4_readPan_73 rfl ?_
      refine e_iload_n dX4_readPan_75 rfl ?_
      refine e_iadd dX4_readPan_76 ?_
      rw [show 26 + (nI P) = nI (26 + P) from (j_add rfl rfl)]
      refine e_bipush (v := 44) dX4_readPan_77 rfl ?_
      refine e_callVi (n := 4) mX4_takesNumber [.int 1, .int 20, .int (nI (26 + P)), .int 44] dX4_readPan_79 ckX4_123 rfl (by decide +kernel) rfl rfl rfl rfl (Nat.le_of_ble_eq_true rfl) ⟨Nat.zero_le _, Nat.zero_le _⟩ (s_takesNumber mtA len qA hl htokA 1 20 (26 + P) (by omega) 44) (fun v79 mtB hmtB => ?_)
      rcases hmtB with ⟨pfB, ⟨eB, qB, hrB, rfl, heB, hqB⟩ | ⟨rdB, qB, hrB, rfl, hrdB, htokB⟩⟩
      · rw [pfA.t, fb.t, hrdA] at hrB
        refine e_if_eq 113 dX4_readPan_82 (by decide) (fun c82 => ?_) (fun h => absurd h (by decide))
        refine e_iconst (v := 0) dX4_readPan_113 rfl ?_
        exact e_zret dX4_readPan_114 rfl (by decide) (by
        unfold panM
        rw [if_neg hP5]
        rw [bind_r hrA]
        refine ⟨fb.tr (pfA.tr pfB), Or.inl ⟨eB, qB, bind_l hrB, rfl, heB, hqB⟩⟩)
      · rw [pfA.t, fb.t, hrdA] at hrB
        refine e_if_eq 113 dX4_readPan_82 (by decide) (fun h => absurd h (by decide)) (fun c82 => ?_)
        have v1 : rdA = _ := (numM_r (tkQ_le hp).2 hrA).1
        have v2 : rdB = _ := (numM_r htokA.1 hrB).1
        refine e_aload_n dX4_readPan_85 rfl ?_
        refine e_iconst (v := 0) dX4_readPan_86 rfl ?_
        refine e_iconst (v := 1) dX4_readPan_87 rfl ?_
        refine e_aload_n dX4_readPan_88 rfl ?_
        refine e_getR (o := 7) (b := 105) dX4_readPan_89 lkX4_28 rfl rfl (by decide) rfl ?_
        refine e_iconst (v := 1) dX4_readPan_92 rfl ?_
        refine e_iald dX4_readPan_93 rfl 1 rfl (by decide) (by decide) ?_
        rw [show mtB 105 1 = nI V from by rw [hrdB, v2, upd_n _ _ (by omega), v1, upd_n _ _ (by omega), upd_n _ _ (by omega), upd_n _ _ (by omega), upd_n _ _ (by omega)]; exact r1]
        refine e_ishl dX4_readPan_94 ?_
        refine e_iconst (v := 1) dX4_readPan_95 rfl ?_
        refine e_isub dX4_readPan_96 ?_
        rw [show (1 <<< ((nI V) &&& 31)) - 1 = nI (2 ^ V - 1) from shV1 V (by omega)]
        refine e_bipush (v := 31) dX4_readPan_97 rfl ?_
        refine e_iload_n dX4_readPan_99 rfl ?_
        refine e_iadd dX4_readPan_100 ?_
        rw [show 31 + (nI P) = nI (31 + P) from (j_add rfl rfl)]
        refine e_bipush (v := 59) dX4_readPan_101 rfl ?_
        refine e_callVi (n := 4) mX4_takesNumber [.int 0, .int (nI (2 ^ V - 1)), .int (nI (31 + P)), .int 59] dX4_readPan_103 ckX4_123 rfl (by decide +kernel) rfl rfl rfl rfl (Nat.le_of_ble_eq_true rfl) ⟨Nat.zero_le _, Nat.zero_le _⟩ (s_takesNumber mtB len qB hl htokB 0 (nI (2 ^ V - 1)) (31 + P) (by omega) 59) (fun v103 mtC hmtC => ?_)
        rcases hmtC with ⟨pfC, ⟨eC, qC, hrC, rfl, heC, hqC⟩ | ⟨rdC, qC, hrC, rfl, hrdC, htokC⟩⟩
        · rw [pfB.t, pfA.t, fb.t, hrdB] at hrC
          refine e_if_eq 113 dX4_readPan_106 (by decide) (fun c106 => ?_) (fun h => absurd h (by decide))
          refine e_iconst (v := 0) dX4_readPan_113 rfl ?_
          exact e_zret dX4_readPan_114 rfl (by decide) (by
        unfold panM
        rw [if_neg hP5]
        rw [bind_r hrA, bind_r hrB]
        refine ⟨fb.tr (pfA.tr (pfB.tr pfC)), ?_⟩
        first | exact Or.inl ⟨eC, qC, hrC, rfl, heC, hqC⟩ | exact Or.inr ⟨rdC, qC, hrC, rfl, hrdC, htokC⟩)
        · rw [pfB.t, pfA.t, fb.t, hrdB] at hrC
          refine e_if_eq 113 dX4_readPan_106 (by decide) (fun h => absurd h (by decide)) (fun c106 => ?_)
          refine e_iconst (v := 1) dX4_readPan_109 rfl ?_
          refine e_goto 114 dX4_readPan_110 (by decide) ?_
          exact e_zret dX4_readPan_114 rfl (by decide) (by
        unfold panM
        rw [if_neg hP5]
        rw [bind_r hrA, bind_r hrB]
        refine ⟨fb.tr (pfA.tr (pfB.tr pfC)), ?_⟩
        first | exact Or.inl ⟨eC, qC, hrC, rfl, heC, hqC⟩ | exact Or.inr ⟨rdC, qC, hrC, rfl, hrdC, htokC⟩)
  · have hP5 : P = 5 := (j_eq (a := P) (b := 5) (by omega) (by decide)).mp c9
    refine e_aload_n dX4_readPan_12 rfl ?_
    refine e_iconst (v := 3) dX4_readPan_13 rfl ?_
    refine e_callVi (n := 1) mX4_faults [.int 3] dX4_readPan_14 ckX4_114 rfl (by decide +kernel) rfl rfl rfl rfl (Nat.le_of_ble_eq_true rfl) ⟨Nat.zero_le _, Nat.zero_le _⟩ (s_faults m 3) (fun v14 mf hmf => ?_)
    obtain ⟨rfl, hf⟩ := hmf
    exact e_zret dX4_readPan_17 rfl (by decide) (by
        obtain ⟨f1, f2, f3⟩ := pf_fault hf
        refine ⟨f1, Or.inl ⟨_, p, ?_, rfl, f2, f3.trans k13⟩⟩
        unfold panM
        rw [if_pos hP5])
