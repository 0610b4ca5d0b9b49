/-! ===== the layout: after both constructors the heap is a fixed list of cells; its state is m : cell -> place -> Int32 ===== -/
abbrev jM : Type := Nat → Nat → Int32
abbrev jG : Type := va_G × (Nat → ClassId) × (Nat → Nat)
abbrev jMeth : Type := MethodName × ByteArray × Nat × Option FieldType × String × Nat × Nat
abbrev jMode : Type := Room × Nat × Nat × (jG → State → (Nat → Prop) → Array Value → List Frame → State → Prop) × (jG → State → (Nat → Prop) → Prop)
/-- (kind, length or class): 0 ints, 1 booleans, 2 Row[], 3 Kitchen[], 4 int[][], 5 an object -/
def jKit : List (Nat × Nat) := [(5, 0), (0, 3), (0, 3), (0, 3), (0, 5), (0, 5), (0, 5), (0, 3), (0, 5), (0, 5), (0, 5)]
def jlayL : List (Nat × Nat) :=
  [(5, 3), (2, 8), (5, 1), (0, 40), (5, 1), (0, 40), (5, 1), (0, 40), (5, 1), (0, 40), (5, 1), (0, 40), (5, 1), (0, 40), (5, 1), (0, 40), (5, 1), (0, 40), (5, 2), (0, 120)] ++
  (jKit ++ (jKit ++ ([(3, 2)] ++ (jKit ++ (jKit ++ ([(4, 24)] ++ (List.replicate 24 (0, 19) ++ ([(0, 3), (0, 16), (4, 4)] ++ (List.replicate 4 (0, 19) ++
  [(0, 16), (5, 4), (0, 8), (0, 8), (0, 320), (0, 51), (0, 40), (0, 120), (0, 51), (0, 3), (0, 1224), (0, 51), (0, 4), (1, 2), (0, 102), (0, 16)])))))))))
def jlay (c : Nat) : Nat × Nat := jlayL.getD c (9, 0)
/-- fields: 0 a number, k + 1: a reference to the cell k + 1 places behind the object -/
def jfoL : List (List Nat) :=
  [[0, 0, 0, 1, 2, 3, 0, 4, 5, 6, 0, 7, 8, 9, 10], [0, 0, 0, 1], [1, 0, 0, 0, 0, 0, 0], [1, 18, 20, 31, 42, 65, 0, 0, 90, 91, 92, 0, 0, 0, 97, 0, 0, 0],
   [1, 2, 3, 0, 0, 4, 5, 6, 0, 0, 0, 0, 0, 0, 0, 7, 8, 9, 0, 10, 11, 0, 12, 13, 14, 0]]
def jfo (ci k : Nat) : Nat := (jfoL.getD ci []).getD k 0
def jCl : List vw_C := [(RX0, TX0, 15), (RX1, TX1, 4), (RX2, TX2, 7), (RX3, TX3, 18), (RX4, TX4, 26)]
def jN (ci : Nat) : Nat := ([15, 4, 7, 18, 26] : List Nat).getD ci 0
def jtg (c j : Nat) : Nat := if c = 1 then 2 + 2 * j else if c = 42 then 43 + 11 * j else if c = 65 then 66 + j else 93 + j
def jfv (G : jG) (m : jM) (c ci k : Nat) : Value := if jfo ci k = 0 then .int (m c k) else .ref (G.2.2 (c + jfo ci k))
def jent (G : jG) (m : jM) (c : Nat) : va_E :=
  if (jlay c).1 = 5 then .inr ((jlay c).2, (List.range (jN (jlay c).2)).map (jfv G m c (jlay c).2))
  else if (jlay c).1 < 2 then .inl (G.2.1 (jlay c).1, (jlay c).2, .inl (m c))
  else .inl (G.2.1 (jlay c).1, (jlay c).2, .inr (.inr (.inr (.inr (fun j => some (G.2.2 (jtg c j)))))))
def jw (G : jG) (m : jM) : va_W := (List.range 113).map (fun c => (G.2.2 c, jent G m c))
def jtys (G : jG) : List (ClassId × FieldType) := [(G.2.1 0, .int), (G.2.1 1, .boolean), (G.2.1 2, .object "JamSongs$Row"), (G.2.1 3, .object "JamSongs$Kitchen"), (G.2.1 4, .array .int)]
def jA (G : jG) : Nat → Prop := fun q => ∃ c, c < 113 ∧ q = G.2.2 c
def jInj (G : jG) : Prop := ∀ i j : Nat, i < 113 → j < 113 → G.2.2 i = G.2.2 j → i = j
def jtr (G : jG) : Value → Value
  | .ref a => .ref (G.2.2 a)
  | v => v
def jnear (j : Nat) : Int32 := ([0, 0, 1, 1, 0, 4] : List Int32).getD j 0
def jNear (G : jG) (A : Nat → Prop) (s : State) (H : Heap) : Prop := va_Z "JamSongs" "NEAREST" "[I" (.ref (G.2.2 113)) A s H ∧ va_T .int (G.2.2 113) 6 (fun j => .int (jnear j)) A s H
/-- the row c becomes f -/
def jup (m : jM) (c : Nat) (f : Nat → Int32) : jM := fun a => if a = c then f else m a
theorem jup_s (m : jM) (c : Nat) (f : Nat → Int32) : jup m c f c = f := if_pos rfl
theorem jup_n (m : jM) {c a : Nat} (f : Nat → Int32) (h : a ≠ c) : jup m c f a = m a := if_neg h
theorem jw_get (G : jG) (m : jM) {c : Nat} (h : c < 113) : (jw G m)[c]? = some (G.2.2 c, jent G m c) := by
  simp [jw, h]
theorem jlay_lt {c k n : Nat} (h : jlay c = (k, n)) (hk : k < 6) : c < 113 := by
  rcases Nat.lt_or_ge c 113 with q | q
  · exact q
  · exfalso
    have e : jlayL.length = 113 := by decide +kernel
    unfold jlay at h
    rw [List.getD_eq_getElem?_getD, List.getElem?_eq_none (by omega)] at h
    have : (9 : Nat) = k := congrArg Prod.fst h
    omega
theorem jent_to {G : jG} {m m' : jM} {a : Nat} (h : m' a = m a) : jent G m' a = jent G m a := by
  unfold jent
  have e : ∀ ci, jfv G m' a ci = jfv G m a ci := fun ci => by funext k; unfold jfv; rw [h]
  rw [h, e]
theorem jw_set {G : jG} {m : jM} {c : Nat} {f : Nat → Int32} {e : va_E} (he : jent G (jup m c f) c = e) : (jw G m).set c (G.2.2 c, e) = jw G (jup m c f) := by
  apply List.ext_getElem?
  intro i
  by_cases hi : i < 113
  · rw [jw_get G _ hi]
    by_cases hc : i = c
    · subst hc
      rw [List.getElem?_set_self (by simp [jw, hi]), he]
    · rw [List.getElem?_set_ne (Ne.symm hc), jw_get G m hi, jent_to (jup_n m f hc)]
  · have l1 : (jw G m).length = 113 := by simp [jw]
    have l2 : (jw G (jup m c f)).length = 113 := by simp [jw]
    rw [List.getElem?_eq_none (by rw [List.length_set]; omega), List.getElem?_eq_none (by omega)]
theorem jw_D {G : jG} {m : jM} {A : Nat → Prop} (hi : jInj G) (hA : ∀ c, c < 113 → A (G.2.2 c)) : va_D A (jw G m) := by
  have key : ∀ (k : Nat) (q : Nat × va_E), (jw G m)[k]? = some q → k < 113 ∧ q.1 = G.2.2 k := by
    intro k q h
    have hl : k < 113 := by
      have := (List.getElem?_eq_some_iff.mp h).1
      simpa [jw] using this
    rw [jw_get G m hl] at h
    exact ⟨hl, by rw [← Option.some.inj h]⟩
  refine ⟨fun i j p q h1 h2 e => ?_, fun k q h => ?_⟩
  · obtain ⟨a1, b1⟩ := key i p h1
    obtain ⟨a2, b2⟩ := key j q h2
    exact hi i j a1 a2 (by rw [← b1, ← b2]; exact e)
  · obtain ⟨a1, b1⟩ := key k q h
    rw [b1]
    exact hA k a1
/-- locals: those that are told are held -/
def jlv (G : jG) (ls : Array Slot) (nL : Nat) (L : List (Option Value)) : Prop := ls.size = nL ∧ lv_wf ls ∧ ∀ (i : Nat) (v : Value), L[i]? = some (some v) → ls[i]? = some (.val (jtr G v))
/-- no long in a place -/
def jnl (o : Option Value) : Bool := match o with
  | some (.long _) => false
  | some (.double _) => false
  | _ => true
def jpr (G : jG) (L : List (Option Value)) : List (Nat × Value) := (List.range L.length).filterMap (fun i => (L[i]?.getD none).map (fun v => (i, jtr G v)))
theorem jpr_mem {G : jG} {L : List (Option Value)} {i : Nat} {v : Value} (h : L[i]? = some (some v)) : (i, jtr G v) ∈ jpr G L := by
  refine List.mem_filterMap.mpr ⟨i, List.mem_range.mpr (List.getElem?_eq_some_iff.mp h).1, ?_⟩
  rw [h]
  rfl
theorem jpr_of {G : jG} {L : List (Option Value)} {q : Nat × Value} (h : q ∈ jpr G L) : ∃ v, L[q.1]? = some (some v) ∧ q.2 = jtr G v := by
  obtain ⟨i, -, h2⟩ := List.mem_filterMap.mp h
  cases hL : L[i]? with
  | none => rw [hL] at h2; cases h2
  | some o =>
    cases o with
    | none => rw [hL] at h2; cases h2
    | some v =>
      rw [hL] at h2
      have e : (i, jtr G v) = q := Option.some.inj h2
      subst e
      exact ⟨v, hL, rfl⟩
theorem jlv_has {G : jG} {ls : Array Slot} {nL : Nat} {L : List (Option Value)} (h : jlv G ls nL L) : lv_has ls nL (jpr G L) :=
  ⟨h.1, h.2.1, fun q hq => by
    obtain ⟨v, h1, h2⟩ := jpr_of hq
    rw [h2]
    exact h.2.2 _ _ h1⟩
theorem jtr_cat (G : jG) (v : Value) : (jtr G v).category = v.category := by cases v <;> rfl
theorem jlv_store {G : jG} {ls' : Array Slot} {nL i : Nat} {L : List (Option Value)} {v : Value} (hn : ∀ j, j + 1 = i → jnl (L[j]?.getD none) = true) (hi : i < L.length)
    (h : lv_has ls' nL ((i, jtr G v) :: (jpr G L).filter (fun q => !(q.1 == i) && !(q.1 + 1 == i && q.2.category == 2)))) : jlv G ls' nL (L.set i (some v)) := by
  refine ⟨h.1, h.2.1, fun j w hj => ?_⟩
  by_cases e : j = i
  · subst e
    rw [List.getElem?_set_self hi] at hj
    cases hj
    exact h.2.2 (j, jtr G v) List.mem_cons_self
  · rw [List.getElem?_set_ne (Ne.symm e)] at hj
    refine h.2.2 (j, jtr G w) (List.mem_cons_of_mem _ (List.mem_filter.mpr ⟨jpr_mem hj, ?_⟩))
    have c : ¬ (j + 1 = i ∧ w.category = 2) := by
      rintro ⟨c1, c2⟩
      have := hn j c1
      rw [hj] at this
      cases w <;> simp_all [jnl, Value.category]
    simp only [Bool.and_eq_true, Bool.not_eq_true', beq_eq_false_iff_ne, ne_eq, Bool.and_eq_false_iff, jtr_cat]
    refine ⟨e, ?_⟩
    by_cases c1 : j + 1 = i
    · exact Or.inr (fun z => c ⟨c1, z⟩)
    · exact Or.inl c1
/-! ===== contracts ===== -/
def jrm (M : jMeth) : Room := { frames := M.2.2.2.2.2.1, cells := 0, slots := 0, locals := M.2.2.2.2.2.2 }
def jws (M : jMeth) : List Cond := .code M.1 M.2.1 M.2.2.1 M.2.2.2.1 :: wsL_law
def jPc (G : jG) (as : List Value) (m : jM) : Array Value → State → Prop := va_Pc (as.map (jtr G)) (fun U => va_P G.1 jCl (jw G m) U.heap ∧ va_K G.1 jCl (jtys G) U ∧ jNear G (jA G) U U.heap ∧ jInj G)
def jQc (G : jG) (Post : Option Value → jM → Prop) : Array Value → State → Outcome → State → Prop := fun _ st oc t => (∃ (r : Option Value) (m' : jM), Post r m' ∧ oc = .returned (r.map (jtr G)) ∧ va_P G.1 jCl (jw G m') t.heap) ∧ va_F (jA G) st t
def jX (M : jMeth) (as : List Value) (m : jM) (Post : Option Value → jM → Prop) : Prop := ∀ (l : Launch) (G : jG), Met l M.1 (jws M) (jrm M) (jPc G as m) (jQc G Post) 0 0 (jA G)
def jC (G : jG) (A : Nat → Prop) (M : jMeth) (p : Program) (s : State) (mth : MethodId) (args : Array Value) (meth : Method) (c : Code) : Prop :=
  p.tables.exec = Jvm.exec ∧ c.code = M.2.1 ∧ c.maxLocals = M.2.2.1 ∧ meth.sig.returnType = M.2.2.2.1 ∧ meth.locks = false ∧ s.vm.findClass M.2.2.2.2.1 = some mth.cls ∧ (∀ w ∈ wsL_law, w.before args s = true) ∧ va_K G.1 jCl (jtys G) s ∧ jNear G A s s.heap ∧ jInj G ∧ ∀ k, k < 113 → A (G.2.2 k)
def jE (B : jMode) (M : jMeth) (pc : Nat) (L : List (Option Value)) (S : List Value) (m : jM) : Prop :=
  ∀ (p : Program) (l : Launch) (e : Env) (G : jG) (A : Nat → Prop) (s : State) (mth : MethodId) (args : Array Value) (below : List Frame) (meth : Method) (c : Code), jC G A M p s mth args meth c → B.2.2.2.2 G s A →
    ∀ (H : Heap) (locs : List Loc) (ls : Array Slot), jlv G ls M.2.2.1 L → va_P G.1 jCl (jw G m) H → va_S A s.heap H locs → W p l e B.1 s mth args below meth c H locs B.2.1 B.2.2.1 (B.2.2.2.1 G s A args below) (F0 mth pc ls (S.map (jtr G)))
def jmd (M : jMeth) (Post : Option Value → jM → Prop) : jMode := (jrm M, 0, 0, fun G s A args below => MQ below (jQc G Post) args s 0 0 A, fun G _ A => A = jA G)
/-- what answers a number; what answers nothing -/
def iP (Q : Int32 → jM → Prop) : Option Value → jM → Prop := fun r m1 => ∃ v : Int32, r = some (.int v) ∧ Q v m1
def vP (Q : jM → Prop) : Option Value → jM → Prop := fun r m1 => r = none ∧ Q m1
abbrev iX (M : jMeth) (as : List Value) (m : jM) (Q : Int32 → jM → Prop) : Prop := jX M as m (iP Q)
abbrev vX (M : jMeth) (as : List Value) (m : jM) (Q : jM → Prop) : Prop := jX M as m (vP Q)
theorem jgood : ∀ w ∈ wsL_law, (w.onTables && w.keeps) = true ∨ ∃ ty, w = .arrayClass ty := by
  have h : wsL_law.all goodWord = true := by decide +kernel
  exact fun w hw => good_of_word (List.all_eq_true.mp h w hw)
theorem jgoodIn {ws : List Cond} (h : ∀ w ∈ ws, w ∈ wsL_law) : GoodIn wsL_law ws := fun w hw => ⟨h w hw, jgood w (h w hw)⟩
def jloc : List Value → List (Option Value)
  | [] => []
  | v :: vs => if v.category = 2 then some v :: none :: jloc vs else some v :: jloc vs
theorem jloc_in (G : jG) : ∀ (vs : List Value) (k i : Nat) (v : Value), (jloc vs)[i]? = some (some v) → (k + i, jtr G v) ∈ lv_args k (vs.map (jtr G))
  | [], k, i, v, h => by simp [jloc] at h
  | u :: us, k, i, v, h => by
    show (k + i, jtr G v) ∈ (k, jtr G u) :: lv_args (if (jtr G u).category = 2 then k + 2 else k + 1) (us.map (jtr G))
    rw [jtr_cat]
    unfold jloc at h
    by_cases c : u.category = 2
    · rw [if_pos c] at h ⊢
      match i, h with
      | 0, h => cases h; exact List.mem_cons_self
      | 1, h => cases h
      | i + 2, h =>
        have := jloc_in G us (k + 2) i v (by simpa using h)
        rw [show k + (i + 2) = k + 2 + i by omega]
        exact List.mem_cons_of_mem _ this
    · rw [if_neg c] at h ⊢
      match i, h with
      | 0, h => cases h; exact List.mem_cons_self
      | i + 1, h =>
        have := jloc_in G us (k + 1) i v (by simpa using h)
        rw [show k + (i + 1) = k + 1 + i by omega]
        exact List.mem_cons_of_mem _ this
theorem lg_sl_tr (G : jG) (vs : List Value) : (lg_sl (vs.map (jtr G))).length = (jloc vs).length := by
  induction vs with
  | nil => rfl
  | cons v vs ih =>
    have e : lg_sl ((v :: vs).map (jtr G)) = (if (jtr G v).category = 2 then [.val (jtr G v), .second] else [.val (jtr G v)]) ++ lg_sl (vs.map (jtr G)) := rfl
    have e2 : jloc (v :: vs) = if v.category = 2 then some v :: none :: jloc vs else some v :: jloc vs := rfl
    rw [e, e2, List.length_append, ih, jtr_cat]
    by_cases c : v.category = 2
    · rw [if_pos c, if_pos c]; simp; omega
    · rw [if_neg c, if_neg c]; simp; omega
/-- a method's contract out of a walk from its entry -/
theorem jX_of {M : jMeth} {as : List Value} {m : jM} {Post : Option Value → jM → Prop} {L : List (Option Value)} (n : Nat) (hL : jloc as ++ List.replicate n none = L) (hn : (jloc as).length + n = M.2.2.1) (hp : plainName M.1.cls = true) (ho : M.2.2.2.2.1 = M.1.cls)
    (h : jE (jmd M Post) M 0 L [] m) : jX M as m Post := by
  intro l G
  refine Met.ofW (cc := M.2.1) (maxL := M.2.2.1) (ret := M.2.2.2.1) hp rfl ?_
  intro p e s mth args below meth c s₁ B hml hv
  obtain ⟨rfl, hP, hK, hN, hI⟩ := hv
  have hts := atoms_spec (ws := jws M) B.pre
  have hC : jC G (jA G) M p s mth (as.map (jtr G)).toArray meth c :=
    ⟨B.exec, B.bytes, hml, B.returns, B.notSynchronized, by rw [ho]; exact findClass_of_methodNamed B.named, fun w hw => hts w (List.mem_cons_of_mem _ hw), hK, hN, hI, fun k hk => ⟨k, hk, rfl⟩⟩
  have hl := lv_entry (as.map (jtr G)) (n := M.2.2.1) (by rw [lg_sl_tr]; omega)
  rw [lg_entry_eq]
  refine h p l e G (jA G) s mth _ below meth c hC rfl s.heap [] _ ⟨hl.1, hl.2.1, fun i v hi => ?_⟩ hP va_S.rf
  refine hl.2.2 (i, jtr G v) ?_
  rw [← hL] at hi
  have hi2 : (jloc as)[i]? = some (some v) := by
    rcases Nat.lt_or_ge i (jloc as).length with q | q
    · rw [List.getElem?_append_left q] at hi
      exact hi
    · rw [List.getElem?_append_right q, List.getElem?_replicate] at hi
      split at hi <;> cases hi
  have := jloc_in G as 0 i v hi2
  rwa [Nat.zero_add] at this
