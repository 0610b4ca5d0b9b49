/-! ===== a row of rows, made at one stroke (multianewarray of ints, two counts): own rows over the machine, nothing of Shelf42 ===== -/
section RR
variable {p : Program} {l : Launch} {e : Env} {R : Room} {s : State} {m : MethodId} {args : Array Value} {below : List Frame} {meth : Method} {c : Code} {H : Heap} {locs : List Loc} {cells slots : Nat} {Q : State → Prop}
/-- the heap U when i of the N rows are made: H as it was, the outer row at H's end, behind it i rows of K noughts -/
def rr_H (H : Heap) (cA cB : ClassId) (N K i : Nat) (U : Heap) : Prop :=
  U.size = H.size + 1 + i ∧ (∀ q : Nat, q < H.size → U[q]? = H[q]?) ∧ U[H.size]? = some (arrV cA N (fun j => if j < i then .ref (H.size + 1 + j) else .null)) ∧
    ∀ j : Nat, j < i → U[H.size + 1 + j]? = some (arrV cB K (fun _ => .int 0))
theorem rr_first (cA cB : ClassId) (N K : Nat) : rr_H H cA cB N K 0 (H.push { cls := cA, slots := Array.replicate N .null }) := by
  refine ⟨by rw [Array.size_push], fun q hq => by rw [Array.getElem?_push, if_neg (Nat.ne_of_lt hq)], ?_, fun j hj => absurd hj (Nat.not_lt_zero j)⟩
  rw [Array.getElem?_push_size]
  have h := arrV_new cA N .null
  rw [show ({ cls := cA, slots := Array.replicate N .null } : Cell) = arrV cA N (fun _ => .null) from h]
  exact congrArg (fun f => some (arrV cA N f)) (funext fun j => (if_neg (Nat.not_lt_zero j)).symm)
theorem rr_next {cA cB : ClassId} {N K i : Nat} {U : Heap} (h : rr_H H cA cB N K i U) :
    rr_H H cA cB N K (i + 1) ((U.push { cls := cB, slots := Array.replicate K (.int 0) }).setIfInBounds H.size ((arrV cA N (fun j => if j < i then .ref (H.size + 1 + j) else .null)).setSlot i (.ref U.size))) := by
  obtain ⟨h1, h2, h3, h4⟩ := h
  have hne : ∀ q : Nat, q ≠ H.size → ((U.push { cls := cB, slots := Array.replicate K (.int 0) }).setIfInBounds H.size ((arrV cA N (fun j => if j < i then .ref (H.size + 1 + j) else .null)).setSlot i (.ref U.size)))[q]? = (U.push { cls := cB, slots := Array.replicate K (.int 0) })[q]? := fun q hq => Array.getElem?_setIfInBounds_ne (Ne.symm hq)
  refine ⟨by rw [Array.size_setIfInBounds, Array.size_push, h1]; omega, fun q hq => ?_, ?_, fun j hj => ?_⟩
  · rw [hne q (Nat.ne_of_lt hq), Array.getElem?_push, if_neg (by omega)]
    exact h2 q hq
  · rw [Array.getElem?_setIfInBounds_self_of_lt (by rw [Array.size_push]; omega), arrV_store, h1]
    refine congrArg (fun f => some (arrV cA N f)) (funext fun j => ?_)
    show (if j = i then Value.ref (H.size + 1 + i) else if j < i then Value.ref (H.size + 1 + j) else Value.null) = _
    rcases Nat.lt_trichotomy j i with q | q | q
    · rw [if_neg (Nat.ne_of_lt q), if_pos q, if_pos (Nat.lt_succ_of_lt q)]
    · rw [if_pos q, if_pos (by omega), q]
    · rw [if_neg (Nat.ne_of_gt q), if_neg (by omega), if_neg (by omega)]
  · rw [hne _ (by omega), Array.getElem?_push]
    by_cases q : j = i
    · rw [if_pos (by omega)]
      exact congrArg some (arrV_new cB K (.int 0))
    · rw [if_neg (by omega)]
      exact h4 j (by omega)
/-- the rows that are wanting, made one behind the other: there is a place F' where it ends, whatever is to hold there -/
theorem rr_loop {cA cB cI : ClassId} {kA kB : Class} {y : Int32} {N : Nat} (hkA : s.vm.classes[cA]? = some kA) (hA : kA.kind = .array cB (.array .int)) (hkB : s.vm.classes[cB]? = some kB) (hB : kB.kind = .array cI .int) (hy : ¬ y < 0) (hby : y.toNatClampNeg * 4 ≤ 536870912) (hs : s.heap.size ≤ H.size)
    {f : Nat → PUnit → Sem (ForInStep PUnit)} (hf : ∀ (i : Nat) (Q' : ForInStep PUnit → Pre) (E : CtlPost) (d : Bool) (acts : List Action) (S : State), wp (Op.multianewarray.make cB [y]) (fun v => wp (Jvm.writeLoc H.size i (.ref v)) (fun _ => Q' (.yield PUnit.unit)) E e) E e d acts S → wp (f i PUnit.unit) Q' E e d acts S) :
    ∀ (r i : Nat) (F : State) (n k : Nat), i + r = N → Stand p l e R s m args below meth c F locs n k → rr_H H cA cB N y.toNatClampNeg i F.heap → n + r ≤ R.cells → k + r * y.toNatClampNeg ≤ R.slots →
      ∃ F' : State, Stand p l e R s m args below meth c F' locs (n + r) (k + r * y.toNatClampNeg) ∧ rr_H H cA cB N y.toNatClampNeg N F'.heap ∧
        ∀ (g : JFrame) (E : CtlPost) (d : Bool) (acts : List Action) (P : PUnit → Pre), (∀ d' acts', P PUnit.unit d' acts' (F'.setTop g)) → wp (forIn (List.range' i r) PUnit.unit f) P E e d acts (F.setTop g)
  | 0, i, F, n, k, hi, X, hU, _, _ => by
    refine ⟨F, by rw [Nat.zero_mul]; exact X, by rw [show N = i by omega] at hU ⊢; exact hU, fun g E d acts P hP => ?_⟩
    rw [List.range'_zero, List.forIn_nil, wp_pure']
    exact hP _ _
  | r + 1, i, F, n, k, hi, X, hU, hn, hk => by
    have hal := X.warmed.alike
    obtain ⟨kA1, hkA1, eA⟩ := hal.2.2 _ _ hkA
    obtain ⟨kB1, hkB1, eB⟩ := hal.2.2 _ _ hkB
    have hA1 : kA1.kind = .array cB (.array .int) := by rw [eA]; exact hA
    have hB1 : kB1.kind = .array cI .int := by rw [eB]; exact hB
    have hk2 : k + y.toNatClampNeg + r * y.toNatClampNeg ≤ R.slots := by rw [Nat.succ_mul] at hk; omega
    obtain ⟨r1, r2⟩ := X.roomAbove (a := 1) (b := y.toNatClampNeg) (by omega) (by omega)
    have hiN : i < N := by omega
    have b1 : ¬ y.toNatClampNeg > e.platform.arrayLengthLimit := by rw [Launch.admits_arrayLengthLimit X.admits]; omega
    have b2 : ¬ y.toNatClampNeg * componentBytes .int > e.platform.maxHeapBytes := by rw [Launch.admits_maxHeapBytes X.admits]; show ¬ y.toNatClampNeg * 4 > 536870912; omega
    have X1 := X.pushed { cls := cB, slots := Array.replicate y.toNatClampNeg (.int 0) }
    rw [Array.size_replicate] at X1
    have hlt : H.size < F.heap.size := by rw [hU.1]; omega
    have hcell : (F.pushCell { cls := cB, slots := Array.replicate y.toNatClampNeg (.int 0) }).heap[H.size]? = some (arrV cA N (fun j => if j < i then .ref (H.size + 1 + j) else .null)) := by
      rw [State.heap_pushCell_of_lt (h := hlt)]
      exact hU.2.2.1
    have X2 := (X1.stored hcell i (.ref F.heap.size)).dropFresh (fun z hz => by rw [List.mem_singleton.mp hz]; exact hs)
    obtain ⟨F', X3, hU3, go⟩ := rr_loop hkA hA hkB hB hy hby hs hf r (i + 1) _ _ _ (by omega) X2 (rr_next hU) (by omega) hk2
    refine ⟨F', by rw [Nat.succ_mul, show n + (r + 1) = n + 1 + r by omega, show k + (r * y.toNatClampNeg + y.toNatClampNeg) = k + y.toNatClampNeg + r * y.toNatClampNeg by omega]; exact X3, hU3, fun g E d acts P hP => ?_⟩
    rw [List.range'_succ, List.forIn_cons, wp_bind']
    refine hf i _ E d acts _ ?_
    rw [Op.multianewarray.make]
    simp only [wp_bind', W.ite, hy, if_false, wp_pure', W.theClass]
    refine ⟨kB1, hkB1, ?_⟩
    rw [hB1]
    refine W.newArray_of (k := kB1) (comp := cI) (type := .int) hkB1 hB1 b1 b2 (by show F.heap.size < _; omega) (by show F.slotsUsed + _ ≤ _; exact r2) rfl (fun acts' => ?_)
    refine ⟨_, hcell, by show VmData.none ≠ _; simp, by rw [arrV_size]; exact hiN, ?_, ?_⟩
    · show State.fitsSlot _ cA .none i _ = true
      simp [State.fitsSlot, State.slotType?, hkA1, hA1, fits]
    · exact go g E _ _ P hP
theorem rr_multi {cc : ByteArray} (hexec : p.tables.exec = Jvm.exec) (hb : c.code = cc) {own : String} {index : Nat} {cA cB : ClassId} (hown : s.vm.findClass own = some m.cls) (hclink : (Cond.classLink own index ("[" ++ (FieldType.array .int).toString)).before args s = true) (hover : (Cond.arrayOver (.array .int)).before args s = true) (harr : (Cond.arrayClass .int).before args s = true)
    (hcA : s.vm.findClass ("[" ++ (FieldType.array .int).toString) = some cA) (hcB : s.vm.findClass (FieldType.array .int).toString = some cB) (hs : s.heap.size ≤ H.size) {pc : Nat} {ls : Array Slot} {rest : List Value} {x y : Int32} (hd : decode cc pc = .ok (.multianewarray index 2, 4)) (hx : ¬ x < 0) (hy : ¬ y < 0) (hbx : x.toNatClampNeg * 4 ≤ 536870912) (hby : y.toNatClampNeg * 4 ≤ 536870912)
    (hn : cells + (1 + x.toNatClampNeg) ≤ R.cells) (hk : slots + (x.toNatClampNeg + x.toNatClampNeg * y.toNatClampNeg) ≤ R.slots)
    (kk : ∀ U : Heap, rr_H H cA cB x.toNatClampNeg y.toNatClampNeg x.toNatClampNeg U → W p l e R s m args below meth c U locs (cells + (1 + x.toNatClampNeg)) (slots + (x.toNatClampNeg + x.toNatClampNeg * y.toNatClampNeg)) Q (F0 m (pc + 4) ls (.ref H.size :: rest))) :
    W p l e R s m args below meth c H locs cells slots Q (F0 m pc ls (.int y :: .int x :: rest)) := by
  intro T hT X
  subst hT
  subst hb
  obtain ⟨b1, a1, kA, f1, -, hkA, hA, f2⟩ := arrayOverA_spec hover
  obtain ⟨b2, kB, cI, f3, hkB, hB⟩ := Cond.arrayClass_spec harr
  cases Option.some.inj (f1.symm.trans hcB)
  cases Option.some.inj (f2.symm.trans hcA)
  cases Option.some.inj (f3.symm.trans hcB)
  obtain ⟨a2, f4, hcl⟩ := Cond.classLink_spec hown hclink e.platform (by rw [X.admits.platform])
  cases Option.some.inj (f4.symm.trans hcA)
  obtain ⟨g1, g2, -⟩ := State.classEntry (e := e) X.warmed hcl
  generalize T.vm.noted m.cls index (.cls cA) = vm1 at g1 g2
  have X1 := X.noted g2
  obtain ⟨kA1, hkA1, eA⟩ := g2.alike.2.2 _ _ hkA
  have hA1 : kA1.kind = .array cB (.array .int) := by rw [eA]; exact hA
  obtain ⟨r1, r2⟩ := X.roomAbove (a := 1) (b := x.toNatClampNeg) (by omega) (by omega)
  have l1 : ¬ x.toNatClampNeg > e.platform.arrayLengthLimit := by rw [Launch.admits_arrayLengthLimit X.admits]; omega
  have l2 : ¬ x.toNatClampNeg * componentBytes (.array .int) > e.platform.maxHeapBytes := by rw [Launch.admits_maxHeapBytes X.admits]; show ¬ x.toNatClampNeg * 4 > 536870912; omega
  have X2 := X1.pushed { cls := cA, slots := Array.replicate x.toNatClampNeg .null }
  rw [Array.size_replicate] at X2
  obtain ⟨F', X3, hU, go⟩ := rr_loop (H := T.heap) (y := y) (N := x.toNatClampNeg) (f := fun i _ => do
    let v ← Op.multianewarray.make cB [y]
    Jvm.writeLoc T.heap.size i (.ref v)
    Pure.pure (ForInStep.yield PUnit.unit)) hkA hA hkB hB hy hby hs (fun i Q' E d acts S h => by
      simp only [wp_bind', wp_pure']
      exact h) x.toNatClampNeg 0 _ _ _ (by omega) X2 (rr_first cA cB x.toNatClampNeg y.toNatClampNeg) (by omega) (by omega)
  obtain ⟨t, k1, k2⟩ := kk F'.heap hU F' rfl (by rw [← Nat.add_assoc, ← Nat.add_assoc]; exact X3)
  refine ⟨t, ?_, k2⟩
  jvm_step X.here [hexec, hd]
  simp only [Op.multianewarray.sem, wp_bind', W.resolveClassAt_links (State.method?_setTop (F0 m pc ls (.int y :: .int x :: rest)) X.here.top) g1]
  rw [W.popN, if_neg (by decide)]
  refine ⟨F0 m pc ls (.int y :: .int x :: rest), State.topJava?_setTop' (s := T.setVm vm1) _ X.here.top, [.int x, .int y], rest, rfl, rfl, ?_⟩
  simp only [List.mapM_cons, List.mapM_nil, wp_bind', wp_pure']
  rw [Op.multianewarray.make]
  simp only [wp_bind', W.ite, hx, if_false, wp_pure', W.theClass]
  refine ⟨kA1, hkA1, ?_⟩
  rw [hA1]
  have hno : List.find? (fun z : Int32 => decide (z < 0)) [y] = none := by simp [hy]
  simp only [wp_bind', hno, ite_self]
  have eS : ((T.setTop (F0 m pc ls (.int y :: .int x :: rest))).setVm vm1).setTop (F0 m pc ls rest) = (T.setVm vm1).setTop (F0 m pc ls rest) := by
    show ((T.setVm vm1).setTop _).setTop _ = _
    rw [State.setTop_setTop]
  rw [eS]
  refine W.newArray_of (k := kA1) (comp := cB) (type := .array .int) hkA1 hA1 l1 l2 (by show T.heap.size < _; omega) (by show T.slotsUsed + _ ≤ _; exact r2) rfl (fun acts' => ?_)
  rw [Std.Legacy.Range.forIn_eq_forIn_range', show ([:x.toNatClampNeg] : Std.Legacy.Range).size = x.toNatClampNeg by simp [Std.Legacy.Range.size]]
  rw [wp_bind']
  refine go (F0 m pc ls rest) _ _ _ _ (fun d' acts2 => ?_)
  simp only [wp_pure', wp_bind', W.mark, W.pushRef]
  refine ⟨_, State.topJava?_setTop' (s := F') _ X3.here.top, fun acts => ?_⟩
  rw [State.setTop_setTop]
  simp [jvm, X3.here.top]
  exact k1
end RR
