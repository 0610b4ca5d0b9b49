theorem jw_native : Cond.native arraycopyName ∈ wsL_law := List.mem_of_getElem? (i := 170) (by decide +kernel)
theorem jw_static : Cond.static arraycopyName ∈ wsL_law := List.mem_of_getElem? (i := 171) (by decide +kernel)
theorem jw_system : Cond.initialized "java/lang/System" ∈ wsL_law := List.mem_of_getElem? (i := 172) (by decide +kernel)
theorem e_iconst {B : jMode} {M : jMeth} {pc : Nat} {L : List (Option Value)} {S : List Value} {m : jM} {n : Int} {v : Int32} (hd : decode M.2.1 pc = .ok (.iconst n, 1)) (hv : Int32.ofInt n = v) (k : jE B M (pc + 1) L (.int v :: S) m) : jE B M pc L S m := by
  intro p l e G A s mth args below meth c C X H locs ls hl hP hS
  exact lv_iconst C.1 C.2.1 hd hv (k p l e G A s mth args below meth c C X H locs ls hl hP hS)
theorem e_bipush {B : jMode} {M : jMeth} {pc : Nat} {L : List (Option Value)} {S : List Value} {m : jM} {n : Int} {v : Int32} (hd : decode M.2.1 pc = .ok (.bipush n, 2)) (hv : (Int8.ofInt n).toInt32 = v) (k : jE B M (pc + 2) L (.int v :: S) m) : jE B M pc L S m := by
  intro p l e G A s mth args below meth c C X H locs ls hl hP hS
  exact lv_bipush C.1 C.2.1 hd hv (k p l e G A s mth args below meth c C X H locs ls hl hP hS)
theorem e_sipush {B : jMode} {M : jMeth} {pc : Nat} {L : List (Option Value)} {S : List Value} {m : jM} {n : Int} {v : Int32} (hd : decode M.2.1 pc = .ok (.sipush n, 3)) (hv : (Int16.ofInt n).toInt32 = v) (k : jE B M (pc + 3) L (.int v :: S) m) : jE B M pc L S m := by
  intro p l e G A s mth args below meth c C X H locs ls hl hP hS
  exact lv_sipush C.1 C.2.1 hd hv (k p l e G A s mth args below meth c C X H locs ls hl hP hS)
theorem e_lconst {B : jMode} {M : jMeth} {pc : Nat} {L : List (Option Value)} {S : List Value} {m : jM} {n : Fin 2} {v : Int64} (hd : decode M.2.1 pc = .ok (.lconst n, 1)) (hv : Int64.ofNat (n : Nat) = v) (k : jE B M (pc + 1) L (.long v :: S) m) : jE B M pc L S m := by
  intro p l e G A s mth args below meth c C X H locs ls hl hP hS
  exact lv_lconst C.1 C.2.1 hd hv (k p l e G A s mth args below meth c C X H locs ls hl hP hS)
theorem e_ldc {B : jMode} {M : jMeth} {pc : Nat} {L : List (Option Value)} {S : List Value} {m : jM} {index : Nat} {v : Int32} (hd : decode M.2.1 pc = .ok (.ldc index, 2)) (hc : Cond.constant M.2.2.2.2.1 index v ∈ wsL_law) (k : jE B M (pc + 2) L (.int v :: S) m) : jE B M pc L S m := by
  intro p l e G A s mth args below meth c C X H locs ls hl hP hS
  exact lv_ldc C.1 C.2.1 C.2.2.2.2.2.1 (C.2.2.2.2.2.2.1 _ hc) hd (k p l e G A s mth args below meth c C X H locs ls hl hP hS)
theorem e_ldcw {B : jMode} {M : jMeth} {pc : Nat} {L : List (Option Value)} {S : List Value} {m : jM} {index : Nat} {v : Int32} (hd : decode M.2.1 pc = .ok (.ldc_w index, 3)) (hc : Cond.constant M.2.2.2.2.1 index v ∈ wsL_law) (k : jE B M (pc + 3) L (.int v :: S) m) : jE B M pc L S m := by
  intro p l e G A s mth args below meth c C X H locs ls hl hP hS
  exact lv_ldcw C.1 C.2.1 C.2.2.2.2.2.1 (C.2.2.2.2.2.2.1 _ hc) hd (k p l e G A s mth args below meth c C X H locs ls hl hP hS)
theorem e_ldc2 {B : jMode} {M : jMeth} {pc : Nat} {L : List (Option Value)} {S : List Value} {m : jM} {index : Nat} {v : Int64} (hd : decode M.2.1 pc = .ok (.ldc2_w index, 3)) (hc : Cond.constantLong M.2.2.2.2.1 index v ∈ wsL_law) (k : jE B M (pc + 3) L (.long v :: S) m) : jE B M pc L S m := by
  intro p l e G A s mth args below meth c C X H locs ls hl hP hS
  exact lv_ldc2 C.1 C.2.1 C.2.2.2.2.2.1 (C.2.2.2.2.2.2.1 _ hc) hd (k p l e G A s mth args below meth c C X H locs ls hl hP hS)
theorem e_iload_n {B : jMode} {M : jMeth} {pc : Nat} {L : List (Option Value)} {S : List Value} {m : jM} {q : Fin 4} {x : Int32} (hd : decode M.2.1 pc = .ok (.iload_n q, 1)) (hL : L[(q : Nat)]? = some (some (.int x))) (k : jE B M (pc + 1) L (.int x :: S) m) : jE B M pc L S m := by
  intro p l e G A s mth args below meth c C X H locs ls hl hP hS
  exact lv_iload_n C.1 C.2.1 hd rfl (hl.2.2 _ _ hL) (k p l e G A s mth args below meth c C X H locs ls hl hP hS)
theorem e_iload {B : jMode} {M : jMeth} {pc : Nat} {L : List (Option Value)} {S : List Value} {m : jM} {i : Nat} {x : Int32} (hd : decode M.2.1 pc = .ok (.iload i, 2)) (hL : L[i]? = some (some (.int x))) (k : jE B M (pc + 2) L (.int x :: S) m) : jE B M pc L S m := by
  intro p l e G A s mth args below meth c C X H locs ls hl hP hS
  exact lv_iload C.1 C.2.1 hd (hl.2.2 _ _ hL) (k p l e G A s mth args below meth c C X H locs ls hl hP hS)
theorem e_lload_n {B : jMode} {M : jMeth} {pc : Nat} {L : List (Option Value)} {S : List Value} {m : jM} {q : Fin 4} {x : Int64} (hd : decode M.2.1 pc = .ok (.lload_n q, 1)) (hL : L[(q : Nat)]? = some (some (.long x))) (k : jE B M (pc + 1) L (.long x :: S) m) : jE B M pc L S m := by
  intro p l e G A s mth args below meth c C X H locs ls hl hP hS
  exact lv_lload_n C.1 C.2.1 hd rfl (hl.2.2 _ _ hL) (k p l e G A s mth args below meth c C X H locs ls hl hP hS)
theorem e_lload {B : jMode} {M : jMeth} {pc : Nat} {L : List (Option Value)} {S : List Value} {m : jM} {i : Nat} {x : Int64} (hd : decode M.2.1 pc = .ok (.lload i, 2)) (hL : L[i]? = some (some (.long x))) (k : jE B M (pc + 2) L (.long x :: S) m) : jE B M pc L S m := by
  intro p l e G A s mth args below meth c C X H locs ls hl hP hS
  exact lv_lload C.1 C.2.1 hd (hl.2.2 _ _ hL) (k p l e G A s mth args below meth c C X H locs ls hl hP hS)
theorem e_aload_n {B : jMode} {M : jMeth} {pc : Nat} {L : List (Option Value)} {S : List Value} {m : jM} {q : Fin 4} {x : Nat} (hd : decode M.2.1 pc = .ok (.aload_n q, 1)) (hL : L[(q : Nat)]? = some (some (.ref x))) (k : jE B M (pc + 1) L (.ref x :: S) m) : jE B M pc L S m := by
  intro p l e G A s mth args below meth c C X H locs ls hl hP hS
  exact lv_aload_n C.1 C.2.1 hd rfl (hl.2.2 _ _ hL) (k p l e G A s mth args below meth c C X H locs ls hl hP hS)
theorem e_aload {B : jMode} {M : jMeth} {pc : Nat} {L : List (Option Value)} {S : List Value} {m : jM} {i : Nat} {x : Nat} (hd : decode M.2.1 pc = .ok (.aload i, 2)) (hL : L[i]? = some (some (.ref x))) (k : jE B M (pc + 2) L (.ref x :: S) m) : jE B M pc L S m := by
  intro p l e G A s mth args below meth c C X H locs ls hl hP hS
  exact lv_aload C.1 C.2.1 hd (hl.2.2 _ _ hL) (k p l e G A s mth args below meth c C X H locs ls hl hP hS)
theorem e_istore_n {B : jMode} {M : jMeth} {pc : Nat} {L : List (Option Value)} {S : List Value} {m : jM} {q : Fin 4} {x : Int32} {L' : List (Option Value)} (hd : decode M.2.1 pc = .ok (.istore_n q, 1)) (hi : (q : Nat) < M.2.2.1) (hi2 : (q : Nat) < L.length) (hn : ∀ j, j + 1 = (q : Nat) → jnl (L[j]?.getD none) = true) (hL : L.set q (some (.int x)) = L') (k : jE B M (pc + 1) L' S m) : jE B M pc L (.int x :: S) m := by
  intro p l e G A s mth args below meth c C X H locs ls hl hP hS
  subst hL
  exact lv_istore_n C.1 C.2.1 hd rfl (jlv_has hl) hi rfl (fun ls' h => k p l e G A s mth args below meth c C X H locs ls' (jlv_store hn hi2 h) hP hS)
theorem e_istore {B : jMode} {M : jMeth} {pc : Nat} {L : List (Option Value)} {S : List Value} {m : jM} {i : Nat} {x : Int32} {L' : List (Option Value)} (hd : decode M.2.1 pc = .ok (.istore i, 2)) (hi : i < M.2.2.1) (hi2 : i < L.length) (hn : ∀ j, j + 1 = i → jnl (L[j]?.getD none) = true) (hL : L.set i (some (.int x)) = L') (k : jE B M (pc + 2) L' S m) : jE B M pc L (.int x :: S) m := by
  intro p l e G A s mth args below meth c C X H locs ls hl hP hS
  subst hL
  exact lv_istore C.1 C.2.1 hd (jlv_has hl) hi rfl (fun ls' h => k p l e G A s mth args below meth c C X H locs ls' (jlv_store hn hi2 h) hP hS)
theorem e_astore_n {B : jMode} {M : jMeth} {pc : Nat} {L : List (Option Value)} {S : List Value} {m : jM} {q : Fin 4} {x : Nat} {L' : List (Option Value)} (hd : decode M.2.1 pc = .ok (.astore_n q, 1)) (hi : (q : Nat) < M.2.2.1) (hi2 : (q : Nat) < L.length) (hn : ∀ j, j + 1 = (q : Nat) → jnl (L[j]?.getD none) = true) (hL : L.set q (some (.ref x)) = L') (k : jE B M (pc + 1) L' S m) : jE B M pc L (.ref x :: S) m := by
  intro p l e G A s mth args below meth c C X H locs ls hl hP hS
  subst hL
  exact lv_astore_n C.1 C.2.1 hd rfl (jlv_has hl) hi rfl (fun ls' h => k p l e G A s mth args below meth c C X H locs ls' (jlv_store hn hi2 h) hP hS)
theorem e_astore {B : jMode} {M : jMeth} {pc : Nat} {L : List (Option Value)} {S : List Value} {m : jM} {i : Nat} {x : Nat} {L' : List (Option Value)} (hd : decode M.2.1 pc = .ok (.astore i, 2)) (hi : i < M.2.2.1) (hi2 : i < L.length) (hn : ∀ j, j + 1 = i → jnl (L[j]?.getD none) = true) (hL : L.set i (some (.ref x)) = L') (k : jE B M (pc + 2) L' S m) : jE B M pc L (.ref x :: S) m := by
  intro p l e G A s mth args below meth c C X H locs ls hl hP hS
  subst hL
  exact lv_astore C.1 C.2.1 hd (jlv_has hl) hi rfl (fun ls' h => k p l e G A s mth args below meth c C X H locs ls' (jlv_store hn hi2 h) hP hS)
theorem e_iinc {B : jMode} {M : jMeth} {pc : Nat} {L : List (Option Value)} {S : List Value} {m : jM} {i : Nat} {n : Int} {x v : Int32} {L' : List (Option Value)} (hd : decode M.2.1 pc = .ok (.iinc i n, 3)) (hx : L[i]? = some (some (.int x))) (hv : x + Int32.ofInt n = v) (hi : i < M.2.2.1) (hn : ∀ j, j + 1 = i → jnl (L[j]?.getD none) = true) (hL : L.set i (some (.int v)) = L') (k : jE B M (pc + 3) L' S m) : jE B M pc L S m := by
  intro p l e G A s mth args below meth c C X H locs ls hl hP hS
  subst hL
  obtain ⟨k0, hk0⟩ := List.getElem?_of_mem (jpr_mem (G := G) hx)
  exact lv_iinc C.1 C.2.1 hd (jlv_has hl) (k := k0) hk0 hv hi rfl (fun ls' h => k p l e G A s mth args below meth c C X H locs ls' (jlv_store (v := .int v) hn (List.getElem?_eq_some_iff.mp hx).1 h) hP hS)
theorem e_iadd {B : jMode} {M : jMeth} {pc : Nat} {L : List (Option Value)} {S : List Value} {m : jM} {x y : Int32} (hd : decode M.2.1 pc = .ok (.iadd, 1)) (k : jE B M (pc + 1) L (.int (x + y) :: S) m) : jE B M pc L (.int y :: .int x :: S) m := by
  intro p l e G A s mth args below meth c C X H locs ls hl hP hS
  exact lv_iadd C.1 C.2.1 hd (k p l e G A s mth args below meth c C X H locs ls hl hP hS)
theorem e_isub {B : jMode} {M : jMeth} {pc : Nat} {L : List (Option Value)} {S : List Value} {m : jM} {x y : Int32} (hd : decode M.2.1 pc = .ok (.isub, 1)) (k : jE B M (pc + 1) L (.int (x - y) :: S) m) : jE B M pc L (.int y :: .int x :: S) m := by
  intro p l e G A s mth args below meth c C X H locs ls hl hP hS
  exact lv_isub C.1 C.2.1 hd (k p l e G A s mth args below meth c C X H locs ls hl hP hS)
theorem e_imul {B : jMode} {M : jMeth} {pc : Nat} {L : List (Option Value)} {S : List Value} {m : jM} {x y : Int32} (hd : decode M.2.1 pc = .ok (.imul, 1)) (k : jE B M (pc + 1) L (.int (x * y) :: S) m) : jE B M pc L (.int y :: .int x :: S) m := by
  intro p l e G A s mth args below meth c C X H locs ls hl hP hS
  exact lv_imul C.1 C.2.1 hd (k p l e G A s mth args below meth c C X H locs ls hl hP hS)
theorem e_iand {B : jMode} {M : jMeth} {pc : Nat} {L : List (Option Value)} {S : List Value} {m : jM} {x y : Int32} (hd : decode M.2.1 pc = .ok (.iand, 1)) (k : jE B M (pc + 1) L (.int (x &&& y) :: S) m) : jE B M pc L (.int y :: .int x :: S) m := by
  intro p l e G A s mth args below meth c C X H locs ls hl hP hS
  exact lv_iand C.1 C.2.1 hd (k p l e G A s mth args below meth c C X H locs ls hl hP hS)
theorem e_ior {B : jMode} {M : jMeth} {pc : Nat} {L : List (Option Value)} {S : List Value} {m : jM} {x y : Int32} (hd : decode M.2.1 pc = .ok (.ior, 1)) (k : jE B M (pc + 1) L (.int (x ||| y) :: S) m) : jE B M pc L (.int y :: .int x :: S) m := by
  intro p l e G A s mth args below meth c C X H locs ls hl hP hS
  exact lv_ior C.1 C.2.1 hd (k p l e G A s mth args below meth c C X H locs ls hl hP hS)
theorem e_ixor {B : jMode} {M : jMeth} {pc : Nat} {L : List (Option Value)} {S : List Value} {m : jM} {x y : Int32} (hd : decode M.2.1 pc = .ok (.ixor, 1)) (k : jE B M (pc + 1) L (.int (x ^^^ y) :: S) m) : jE B M pc L (.int y :: .int x :: S) m := by
  intro p l e G A s mth args below meth c C X H locs ls hl hP hS
  exact lv_ixor C.1 C.2.1 hd (k p l e G A s mth args below meth c C X H locs ls hl hP hS)
theorem e_ishl {B : jMode} {M : jMeth} {pc : Nat} {L : List (Option Value)} {S : List Value} {m : jM} {x y : Int32} (hd : decode M.2.1 pc = .ok (.ishl, 1)) (k : jE B M (pc + 1) L (.int (x <<< (y &&& 31)) :: S) m) : jE B M pc L (.int y :: .int x :: S) m := by
  intro p l e G A s mth args below meth c C X H locs ls hl hP hS
  exact lv_ishl C.1 C.2.1 hd (k p l e G A s mth args below meth c C X H locs ls hl hP hS)
theorem e_ishr {B : jMode} {M : jMeth} {pc : Nat} {L : List (Option Value)} {S : List Value} {m : jM} {x y : Int32} (hd : decode M.2.1 pc = .ok (.ishr, 1)) (k : jE B M (pc + 1) L (.int (x >>> (y &&& 31)) :: S) m) : jE B M pc L (.int y :: .int x :: S) m := by
  intro p l e G A s mth args below meth c C X H locs ls hl hP hS
  exact lv_ishr C.1 C.2.1 hd (k p l e G A s mth args below meth c C X H locs ls hl hP hS)
theorem e_iushr {B : jMode} {M : jMeth} {pc : Nat} {L : List (Option Value)} {S : List Value} {m : jM} {x y : Int32} (hd : decode M.2.1 pc = .ok (.iushr, 1)) (k : jE B M (pc + 1) L (.int ((x.toUInt32 >>> (y.toUInt32 &&& Int32.toUInt32 31)).toInt32) :: S) m) : jE B M pc L (.int y :: .int x :: S) m := by
  intro p l e G A s mth args below meth c C X H locs ls hl hP hS
  exact lv_iushr C.1 C.2.1 hd rfl (k p l e G A s mth args below meth c C X H locs ls hl hP hS)
theorem e_ineg {B : jMode} {M : jMeth} {pc : Nat} {L : List (Option Value)} {S : List Value} {m : jM} {x : Int32} (hd : decode M.2.1 pc = .ok (.ineg, 1)) (k : jE B M (pc + 1) L (.int (-x) :: S) m) : jE B M pc L (.int x :: S) m := by
  intro p l e G A s mth args below meth c C X H locs ls hl hP hS
  exact lv_ineg C.1 C.2.1 hd (k p l e G A s mth args below meth c C X H locs ls hl hP hS)
theorem e_idiv {B : jMode} {M : jMeth} {pc : Nat} {L : List (Option Value)} {S : List Value} {m : jM} {x y : Int32} (hd : decode M.2.1 pc = .ok (.idiv, 1)) (hne : ¬ y = 0) (k : jE B M (pc + 1) L (.int (x / y) :: S) m) : jE B M pc L (.int y :: .int x :: S) m := by
  intro p l e G A s mth args below meth c C X H locs ls hl hP hS
  exact lv_idiv C.1 C.2.1 hd hne (k p l e G A s mth args below meth c C X H locs ls hl hP hS)
theorem e_irem {B : jMode} {M : jMeth} {pc : Nat} {L : List (Option Value)} {S : List Value} {m : jM} {x y : Int32} (hd : decode M.2.1 pc = .ok (.irem, 1)) (hne : ¬ y = 0) (k : jE B M (pc + 1) L (.int (x - x / y * y) :: S) m) : jE B M pc L (.int y :: .int x :: S) m := by
  intro p l e G A s mth args below meth c C X H locs ls hl hP hS
  exact lv_irem C.1 C.2.1 hd hne (k p l e G A s mth args below meth c C X H locs ls hl hP hS)
theorem e_i2l {B : jMode} {M : jMeth} {pc : Nat} {L : List (Option Value)} {S : List Value} {m : jM} {x : Int32} (hd : decode M.2.1 pc = .ok (.i2l, 1)) (k : jE B M (pc + 1) L (.long x.toInt64 :: S) m) : jE B M pc L (.int x :: S) m := by
  intro p l e G A s mth args below meth c C X H locs ls hl hP hS
  exact lv_i2l C.1 C.2.1 hd rfl (k p l e G A s mth args below meth c C X H locs ls hl hP hS)
theorem e_i2b {B : jMode} {M : jMeth} {pc : Nat} {L : List (Option Value)} {S : List Value} {m : jM} {x : Int32} (hd : decode M.2.1 pc = .ok (.i2b, 1)) (k : jE B M (pc + 1) L (.int x.toInt8.toInt32 :: S) m) : jE B M pc L (.int x :: S) m := by
  intro p l e G A s mth args below meth c C X H locs ls hl hP hS
  exact lv_i2b C.1 C.2.1 hd rfl (k p l e G A s mth args below meth c C X H locs ls hl hP hS)
theorem e_i2s {B : jMode} {M : jMeth} {pc : Nat} {L : List (Option Value)} {S : List Value} {m : jM} {x : Int32} (hd : decode M.2.1 pc = .ok (.i2s, 1)) (k : jE B M (pc + 1) L (.int x.toInt16.toInt32 :: S) m) : jE B M pc L (.int x :: S) m := by
  intro p l e G A s mth args below meth c C X H locs ls hl hP hS
  exact lv_i2s C.1 C.2.1 hd rfl (k p l e G A s mth args below meth c C X H locs ls hl hP hS)
theorem e_lsub {B : jMode} {M : jMeth} {pc : Nat} {L : List (Option Value)} {S : List Value} {m : jM} {x y : Int64} (hd : decode M.2.1 pc = .ok (.lsub, 1)) (k : jE B M (pc + 1) L (.long (x - y) :: S) m) : jE B M pc L (.long y :: .long x :: S) m := by
  intro p l e G A s mth args below meth c C X H locs ls hl hP hS
  exact lv_lsub C.1 C.2.1 hd (k p l e G A s mth args below meth c C X H locs ls hl hP hS)
theorem e_lcmp {B : jMode} {M : jMeth} {pc : Nat} {L : List (Option Value)} {S : List Value} {m : jM} {x y : Int64} (hd : decode M.2.1 pc = .ok (.lcmp, 1)) (k : jE B M (pc + 1) L (.int (lg_cmp x y) :: S) m) : jE B M pc L (.long y :: .long x :: S) m := by
  intro p l e G A s mth args below meth c C X H locs ls hl hP hS
  exact W.lcmp C.1 C.2.1 hd (k p l e G A s mth args below meth c C X H locs ls hl hP hS)
theorem e_dup {B : jMode} {M : jMeth} {pc : Nat} {L : List (Option Value)} {S : List Value} {m : jM} {v : Value} (hd : decode M.2.1 pc = .ok (.dup, 1)) (hv : v.category = 1) (k : jE B M (pc + 1) L (v :: v :: S) m) : jE B M pc L (v :: S) m := by
  intro p l e G A s mth args below meth c C X H locs ls hl hP hS
  exact lv_dup C.1 C.2.1 hd (by rw [jtr_cat]; exact hv) (k p l e G A s mth args below meth c C X H locs ls hl hP hS)
theorem e_dup2 {B : jMode} {M : jMeth} {pc : Nat} {L : List (Option Value)} {S : List Value} {m : jM} {u v : Value} (hd : decode M.2.1 pc = .ok (.dup2, 1)) (hu : u.category = 1) (hv : v.category = 1) (k : jE B M (pc + 1) L (u :: v :: u :: v :: S) m) : jE B M pc L (u :: v :: S) m := by
  intro p l e G A s mth args below meth c C X H locs ls hl hP hS
  exact lv_dup2_11 C.1 C.2.1 hd (by rw [jtr_cat]; exact hu) (by rw [jtr_cat]; exact hv) (k p l e G A s mth args below meth c C X H locs ls hl hP hS)
theorem e_if_eq {B : jMode} {M : jMeth} {pc : Nat} {L : List (Option Value)} {S : List Value} {m : jM} {x : Int32} {off : Int} (tgt : Nat) (hd : decode M.2.1 pc = .ok (.ifCond .eq off, 3)) (ht : (pc : Int) + off = (tgt : Int)) (kt : x = 0 → jE B M tgt L S m) (kf : ¬ x = 0 → jE B M (pc + 3) L S m) : jE B M pc L (.int x :: S) m := by
  intro p l e G A s mth args below meth c C X H locs ls hl hP hS
  exact lv_if_eq C.1 C.2.1 hd ht (fun h => kt h p l e G A s mth args below meth c C X H locs ls hl hP hS) (fun h => kf h p l e G A s mth args below meth c C X H locs ls hl hP hS)
theorem e_icmp_eq {B : jMode} {M : jMeth} {pc : Nat} {L : List (Option Value)} {S : List Value} {m : jM} {x y : Int32} {off : Int} (tgt : Nat) (hd : decode M.2.1 pc = .ok (.if_icmp .eq off, 3)) (ht : (pc : Int) + off = (tgt : Int)) (kt : x = y → jE B M tgt L S m) (kf : ¬ x = y → jE B M (pc + 3) L S m) : jE B M pc L (.int y :: .int x :: S) m := by
  intro p l e G A s mth args below meth c C X H locs ls hl hP hS
  exact lv_icmp_eq C.1 C.2.1 hd ht (fun h => kt h p l e G A s mth args below meth c C X H locs ls hl hP hS) (fun h => kf h p l e G A s mth args below meth c C X H locs ls hl hP hS)
theorem e_if_ne {B : jMode} {M : jMeth} {pc : Nat} {L : List (Option Value)} {S : List Value} {m : jM} {x : Int32} {off : Int} (tgt : Nat) (hd : decode M.2.1 pc = .ok (.ifCond .ne off, 3)) (ht : (pc : Int) + off = (tgt : Int)) (kt : ¬ x = 0 → jE B M tgt L S m) (kf : x = 0 → jE B M (pc + 3) L S m) : jE B M pc L (.int x :: S) m := by
  intro p l e G A s mth args below meth c C X H locs ls hl hP hS
  exact lv_if_ne C.1 C.2.1 hd ht (fun h => kt h p l e G A s mth args below meth c C X H locs ls hl hP hS) (fun h => kf h p l e G A s mth args below meth c C X H locs ls hl hP hS)
theorem e_icmp_ne {B : jMode} {M : jMeth} {pc : Nat} {L : List (Option Value)} {S : List Value} {m : jM} {x y : Int32} {off : Int} (tgt : Nat) (hd : decode M.2.1 pc = .ok (.if_icmp .ne off, 3)) (ht : (pc : Int) + off = (tgt : Int)) (kt : ¬ x = y → jE B M tgt L S m) (kf : x = y → jE B M (pc + 3) L S m) : jE B M pc L (.int y :: .int x :: S) m := by
  intro p l e G A s mth args below meth c C X H locs ls hl hP hS
  exact lv_icmp_ne C.1 C.2.1 hd ht (fun h => kt h p l e G A s mth args below meth c C X H locs ls hl hP hS) (fun h => kf h p l e G A s mth args below meth c C X H locs ls hl hP hS)
theorem e_if_lt {B : jMode} {M : jMeth} {pc : Nat} {L : List (Option Value)} {S : List Value} {m : jM} {x : Int32} {off : Int} (tgt : Nat) (hd : decode M.2.1 pc = .ok (.ifCond .lt off, 3)) (ht : (pc : Int) + off = (tgt : Int)) (kt : x < 0 → jE B M tgt L S m) (kf : ¬ x < 0 → jE B M (pc + 3) L S m) : jE B M pc L (.int x :: S) m := by
  intro p l e G A s mth args below meth c C X H locs ls hl hP hS
  exact lv_if_lt C.1 C.2.1 hd ht (fun h => kt h p l e G A s mth args below meth c C X H locs ls hl hP hS) (fun h => kf h p l e G A s mth args below meth c C X H locs ls hl hP hS)
theorem e_icmp_lt {B : jMode} {M : jMeth} {pc : Nat} {L : List (Option Value)} {S : List Value} {m : jM} {x y : Int32} {off : Int} (tgt : Nat) (hd : decode M.2.1 pc = .ok (.if_icmp .lt off, 3)) (ht : (pc : Int) + off = (tgt : Int)) (kt : x < y → jE B M tgt L S m) (kf : ¬ x < y → jE B M (pc + 3) L S m) : jE B M pc L (.int y :: .int x :: S) m := by
  intro p l e G A s mth args below meth c C X H locs ls hl hP hS
  exact lv_icmp_lt C.1 C.2.1 hd ht (fun h => kt h p l e G A s mth args below meth c C X H locs ls hl hP hS) (fun h => kf h p l e G A s mth args below meth c C X H locs ls hl hP hS)
theorem e_if_ge {B : jMode} {M : jMeth} {pc : Nat} {L : List (Option Value)} {S : List Value} {m : jM} {x : Int32} {off : Int} (tgt : Nat) (hd : decode M.2.1 pc = .ok (.ifCond .ge off, 3)) (ht : (pc : Int) + off = (tgt : Int)) (kt : 0 ≤ x → jE B M tgt L S m) (kf : ¬ 0 ≤ x → jE B M (pc + 3) L S m) : jE B M pc L (.int x :: S) m := by
  intro p l e G A s mth args below meth c C X H locs ls hl hP hS
  exact lv_if_ge C.1 C.2.1 hd ht (fun h => kt h p l e G A s mth args below meth c C X H locs ls hl hP hS) (fun h => kf h p l e G A s mth args below meth c C X H locs ls hl hP hS)
theorem e_icmp_ge {B : jMode} {M : jMeth} {pc : Nat} {L : List (Option Value)} {S : List Value} {m : jM} {x y : Int32} {off : Int} (tgt : Nat) (hd : decode M.2.1 pc = .ok (.if_icmp .ge off, 3)) (ht : (pc : Int) + off = (tgt : Int)) (kt : y ≤ x → jE B M tgt L S m) (kf : ¬ y ≤ x → jE B M (pc + 3) L S m) : jE B M pc L (.int y :: .int x :: S) m := by
  intro p l e G A s mth args below meth c C X H locs ls hl hP hS
  exact lv_icmp_ge C.1 C.2.1 hd ht (fun h => kt h p l e G A s mth args below meth c C X H locs ls hl hP hS) (fun h => kf h p l e G A s mth args below meth c C X H locs ls hl hP hS)
theorem e_if_gt {B : jMode} {M : jMeth} {pc : Nat} {L : List (Option Value)} {S : List Value} {m : jM} {x : Int32} {off : Int} (tgt : Nat) (hd : decode M.2.1 pc = .ok (.ifCond .gt off, 3)) (ht : (pc : Int) + off = (tgt : Int)) (kt : 0 < x → jE B M tgt L S m) (kf : ¬ 0 < x → jE B M (pc + 3) L S m) : jE B M pc L (.int x :: S) m := by
  intro p l e G A s mth args below meth c C X H locs ls hl hP hS
  exact lv_if_gt C.1 C.2.1 hd ht (fun h => kt h p l e G A s mth args below meth c C X H locs ls hl hP hS) (fun h => kf h p l e G A s mth args below meth c C X H locs ls hl hP hS)
theorem e_icmp_gt {B : jMode} {M : jMeth} {pc : Nat} {L : List (Option Value)} {S : List Value} {m : jM} {x y : Int32} {off : Int} (tgt : Nat) (hd : decode M.2.1 pc = .ok (.if_icmp .gt off, 3)) (ht : (pc : Int) + off = (tgt : Int)) (kt : y < x → jE B M tgt L S m) (kf : ¬ y < x → jE B M (pc + 3) L S m) : jE B M pc L (.int y :: .int x :: S) m := by
  intro p l e G A s mth args below meth c C X H locs ls hl hP hS
  exact lv_icmp_gt C.1 C.2.1 hd ht (fun h => kt h p l e G A s mth args below meth c C X H locs ls hl hP hS) (fun h => kf h p l e G A s mth args below meth c C X H locs ls hl hP hS)
theorem e_if_le {B : jMode} {M : jMeth} {pc : Nat} {L : List (Option Value)} {S : List Value} {m : jM} {x : Int32} {off : Int} (tgt : Nat) (hd : decode M.2.1 pc = .ok (.ifCond .le off, 3)) (ht : (pc : Int) + off = (tgt : Int)) (kt : x ≤ 0 → jE B M tgt L S m) (kf : ¬ x ≤ 0 → jE B M (pc + 3) L S m) : jE B M pc L (.int x :: S) m := by
  intro p l e G A s mth args below meth c C X H locs ls hl hP hS
  exact lv_if_le C.1 C.2.1 hd ht (fun h => kt h p l e G A s mth args below meth c C X H locs ls hl hP hS) (fun h => kf h p l e G A s mth args below meth c C X H locs ls hl hP hS)
theorem e_icmp_le {B : jMode} {M : jMeth} {pc : Nat} {L : List (Option Value)} {S : List Value} {m : jM} {x y : Int32} {off : Int} (tgt : Nat) (hd : decode M.2.1 pc = .ok (.if_icmp .le off, 3)) (ht : (pc : Int) + off = (tgt : Int)) (kt : x ≤ y → jE B M tgt L S m) (kf : ¬ x ≤ y → jE B M (pc + 3) L S m) : jE B M pc L (.int y :: .int x :: S) m := by
  intro p l e G A s mth args below meth c C X H locs ls hl hP hS
  exact lv_icmp_le C.1 C.2.1 hd ht (fun h => kt h p l e G A s mth args below meth c C X H locs ls hl hP hS) (fun h => kf h p l e G A s mth args below meth c C X H locs ls hl hP hS)
theorem e_goto {B : jMode} {M : jMeth} {pc : Nat} {L : List (Option Value)} {S : List Value} {m : jM} {off : Int} (tgt : Nat) (hd : decode M.2.1 pc = .ok (.goto off, 3)) (ht : (pc : Int) + off = (tgt : Int)) (k : jE B M tgt L S m) : jE B M pc L S m := by
  intro p l e G A s mth args below meth c C X H locs ls hl hP hS
  exact lv_goto C.1 C.2.1 hd ht (k p l e G A s mth args below meth c C X H locs ls hl hP hS)
theorem e_tsOut {B : jMode} {M : jMeth} {pc : Nat} {L : List (Option Value)} {S : List Value} {m : jM} {dflt lo hi : Int} {offs : Array Int} {len : Nat} {x : Int32} (tgt : Nat) (hd : decode M.2.1 pc = .ok (.tableswitch dflt lo hi offs, len)) (h : x.toInt < lo ∨ hi < x.toInt) (ht : (pc : Int) + dflt = (tgt : Int)) (k : jE B M tgt L S m) : jE B M pc L (.int x :: S) m := by
  intro p l e G A s mth args below meth c C X H locs ls hl hP hS
  exact lv_tableOut C.1 C.2.1 hd h ht (k p l e G A s mth args below meth c C X H locs ls hl hP hS)
theorem e_tsIn {B : jMode} {M : jMeth} {pc : Nat} {L : List (Option Value)} {S : List Value} {m : jM} {dflt lo hi : Int} {offs : Array Int} {len : Nat} {x : Int32} {off : Int} (tgt : Nat) (hd : decode M.2.1 pc = .ok (.tableswitch dflt lo hi offs, len)) (h1 : ¬ x.toInt < lo) (h2 : ¬ hi < x.toInt) (ho : offs[(x.toInt - lo).toNat]? = some off) (ht : (pc : Int) + off = (tgt : Int)) (k : jE B M tgt L S m) : jE B M pc L (.int x :: S) m := by
  intro p l e G A s mth args below meth c C X H locs ls hl hP hS
  exact lv_tableIn C.1 C.2.1 hd h1 h2 ho ht (k p l e G A s mth args below meth c C X H locs ls hl hP hS)
theorem e_iret {M : jMeth} {pc : Nat} {L : List (Option Value)} {m : jM} {v : Int32} {Q : Int32 → jM → Prop} (hd : decode M.2.1 pc = .ok (.ireturn, 1)) (hr : M.2.2.2.1 = some .int) (hq : Q v m) : jE (jmd M (iP Q)) M pc L [.int v] m := by
  intro p l e G A s mth args below meth c C X H locs ls hl hP hS
  have X : A = jA G := X
  subst X
  exact W.iret C.1 C.2.1 (C.2.2.2.1.trans hr) (fun t ht hW => ⟨⟨some (.int v), m, ⟨v, rfl, hq⟩, rfl, by rw [ht]; exact hP⟩, hS.F ht⟩) hS.2.2 hd C.2.2.2.2.1
theorem e_zret {M : jMeth} {pc : Nat} {L : List (Option Value)} {m : jM} {v : Int32} {Q : Int32 → jM → Prop} (hd : decode M.2.1 pc = .ok (.ireturn, 1)) (hr : M.2.2.2.1 = some .boolean) (h01 : v = 0 ∨ v = 1) (hq : Q v m) : jE (jmd M (iP Q)) M pc L [.int v] m := by
  intro p l e G A s mth args below meth c C X H locs ls hl hP hS
  have X : A = jA G := X
  subst X
  exact W.zret C.1 C.2.1 (C.2.2.2.1.trans hr) (by rcases h01 with rfl | rfl <;> rfl) (fun t ht hW => ⟨⟨some (.int v), m, ⟨v, rfl, hq⟩, rfl, by rw [ht]; exact hP⟩, hS.F ht⟩) hS.2.2 hd C.2.2.2.2.1
theorem e_vret {M : jMeth} {pc : Nat} {L : List (Option Value)} {m : jM} {Q : jM → Prop} (hd : decode M.2.1 pc = .ok (.return_, 1)) (hr : M.2.2.2.1 = none) (hq : Q m) : jE (jmd M (vP Q)) M pc L [] m := by
  intro p l e G A s mth args below meth c C X H locs ls hl hP hS
  have X : A = jA G := X
  subst X
  exact W.vret C.1 C.2.1 (C.2.2.2.1.trans hr) (fun t ht hW => ⟨⟨none, m, ⟨rfl, hq⟩, rfl, by rw [ht]; exact hP⟩, hS.F ht⟩) hS.2.2 hd C.2.2.2.2.1
theorem jent_arr {G : jG} {m : jM} {c k n : Nat} (h : jlay c = (k, n)) (hk : k < 2) : jent G m c = .inl (G.2.1 k, n, .inl (m c)) := by
  unfold jent
  rw [h]
  rw [if_neg (by show ¬ k = 5; omega), if_pos (show k < 2 from hk)]
theorem jent_refs {G : jG} {m : jM} {c k n : Nat} (h : jlay c = (k, n)) (hk : 2 ≤ k) (hk2 : k < 5) : jent G m c = .inl (G.2.1 k, n, .inr (.inr (.inr (.inr (fun j => some (G.2.2 (jtg c j))))))) := by
  unfold jent
  rw [h]
  rw [if_neg (by show ¬ k = 5; omega), if_neg (show ¬ k < 2 by omega)]
theorem jent_obj {G : jG} {m : jM} {c ci : Nat} (h : jlay c = (5, ci)) : jent G m c = .inr (ci, (List.range (jN ci)).map (jfv G m c ci)) := by
  unfold jent
  rw [h]
  rw [if_pos (show (5 : Nat) = 5 from rfl)]
/-- a field link of the tables: in the class 'own', at the place idx of its pool, the field k of the class ci -/
def jFL (own : String) (idx ci k : Nat) : Prop := ∃ (C : String) (T : u_T) (N : Nat), jCl[ci]? = some (C, T, N) ∧ jN ci = N ∧ k < N ∧ (T k).1 = C ∧ Cond.fieldLink own idx C (T k).2.1 (T k).2.2.1 ∈ wsL_law
theorem jin {ci : Nat} {C : String} {T : u_T} {N : Nat} (h : jCl[ci]? = some (C, T, N)) : ∀ w ∈ u_ws C T N, w ∈ wsL_law := by
  match ci, h with
  | 0, h => cases h; exact inlX0
  | 1, h => cases h; exact inlX1
  | 2, h => cases h; exact inlX2
  | 3, h => cases h; exact inlX3
  | 4, h => cases h; exact inlX4
  | n + 5, h => simp [jCl] at h
theorem e_getI {B : jMode} {M : jMeth} {pc : Nat} {L : List (Option Value)} {S : List Value} {m : jM} {index a ci f : Nat} (hd : decode M.2.1 pc = .ok (.getfield index, 3)) (hf : jFL M.2.2.2.2.1 index ci f) (ha : jlay a = (5, ci)) (hi : jfo ci f = 0) (k : jE B M (pc + 3) L (.int (m a f) :: S) m) : jE B M pc L (.ref a :: S) m := by
  intro p l e G A s mth args below meth c C X H locs ls hl hP hS
  obtain ⟨Cn, T, N, h1, h1b, h2, h3, h4⟩ := hf
  refine va_get (own := M.2.2.2.2.1) (ref := Cn) (v := .int (m a f)) C.1 C.2.1 C.2.2.2.2.2.2.1 (jin h1) C.2.2.2.2.2.1 C.2.2.2.2.2.2.2.1 hP a ((jw_get G m (jlay_lt ha (by omega))).trans (by rw [jent_obj ha])) h1 f h2 (C.2.2.2.2.2.2.1 _ h4) (fun x h => by rw [h3] at h; exact h) ?_ hd (k p l e G A s mth args below meth c C X H locs ls hl hP hS)
  rw [List.getElem?_map, List.getElem?_range (by omega), Option.map_some]
  unfold jfv
  rw [if_pos hi]
theorem e_getR {B : jMode} {M : jMeth} {pc : Nat} {L : List (Option Value)} {S : List Value} {m : jM} {index a ci f o : Nat} (hd : decode M.2.1 pc = .ok (.getfield index, 3)) (hf : jFL M.2.2.2.2.1 index ci f) (ha : jlay a = (5, ci)) (hi : jfo ci f = o) (ho : o ≠ 0) {b : Nat} (hb : a + o = b) (k : jE B M (pc + 3) L (.ref b :: S) m) : jE B M pc L (.ref a :: S) m := by
  intro p l e G A s mth args below meth c C X H locs ls hl hP hS
  obtain ⟨Cn, T, N, h1, h1b, h2, h3, h4⟩ := hf
  subst hb
  refine va_get (own := M.2.2.2.2.1) (ref := Cn) (v := .ref (G.2.2 (a + o))) C.1 C.2.1 C.2.2.2.2.2.2.1 (jin h1) C.2.2.2.2.2.1 C.2.2.2.2.2.2.2.1 hP a ((jw_get G m (jlay_lt ha (by omega))).trans (by rw [jent_obj ha])) h1 f h2 (C.2.2.2.2.2.2.1 _ h4) (fun x h => by rw [h3] at h; exact h) ?_ hd (k p l e G A s mth args below meth c C X H locs ls hl hP hS)
  rw [List.getElem?_map, List.getElem?_range (by omega), Option.map_some]
  unfold jfv
  rw [hi, if_neg ho]
def jty (ci : Nat) : Nat → FieldType := match ci with
  | 0 => tyX0
  | 1 => tyX1
  | 2 => tyX2
  | 3 => tyX3
  | _ => tyX4
theorem jty_ok {ci : Nat} {C : String} {T : u_T} {N : Nat} (h : jCl[ci]? = some (C, T, N)) : (∀ k, k < N → parseFieldDescriptor (T k).2.2.1 = some (jty ci k)) ∧ ∀ a, a < N → ∀ b, b < N → a ≠ b → (T a).2.1 ≠ (T b).2.1 := by
  match ci, h with
  | 0, h => cases h; exact ⟨tyX0_ok, nmX0⟩
  | 1, h => cases h; exact ⟨tyX1_ok, nmX1⟩
  | 2, h => cases h; exact ⟨tyX2_ok, nmX2⟩
  | 3, h => cases h; exact ⟨tyX3_ok, nmX3⟩
  | 4, h => cases h; exact ⟨tyX4_ok, nmX4⟩
  | n + 5, h => simp [jCl] at h
/-- a number's field is written: not final, an int or a boolean -/
def jFW (ci k : Nat) : Prop := ∀ (C : String) (T : u_T) (N : Nat), jCl[ci]? = some (C, T, N) → (T k).2.2.2 = false
theorem jfv_set {G : jG} {m : jM} {a ci f : Nat} {x : Int32} (hi : jfo ci f = 0) (hf : f < jN ci) : ((List.range (jN ci)).map (jfv G m a ci)).set f (.int x) = (List.range (jN ci)).map (jfv G (jup m a (upd (m a) f x)) a ci) := by
  apply List.ext_getElem?
  intro i
  by_cases h : i < jN ci
  · rw [List.getElem?_map, List.getElem?_range h, Option.map_some]
    by_cases e : i = f
    · subst e
      rw [List.getElem?_set_self (by simpa using h)]
      unfold jfv
      rw [if_pos hi, jup_s]
      simp [upd]
    · rw [List.getElem?_set_ne (Ne.symm e), List.getElem?_map, List.getElem?_range h, Option.map_some]
      unfold jfv
      rw [jup_s]
      simp [upd, e]
  · rw [List.getElem?_eq_none (by simpa using h), List.getElem?_eq_none (by simpa using h)]
theorem e_putI {B : jMode} {M : jMeth} {pc : Nat} {L : List (Option Value)} {S : List Value} {m : jM} {index a ci f : Nat} {x : Int32} (hd : decode M.2.1 pc = .ok (.putfield index, 3)) (hf : jFL M.2.2.2.2.1 index ci f) (ha : jlay a = (5, ci)) (hi : jfo ci f = 0) (hw : jFW ci f) (ht : jty ci f = .int ∨ (jty ci f = .boolean ∧ (x = 0 ∨ x = 1))) (k : ∀ m1 : jM, m1 = jup m a (upd (m a) f x) → jE B M (pc + 3) L S m1) : jE B M pc L (.int x :: .ref a :: S) m := by
  intro p l e G A s mth args below meth c C X H locs ls hl hP hS
  obtain ⟨Cn, T, N, h1, h1b, h2, h3, h4⟩ := hf
  obtain ⟨g1, g2⟩ := jty_ok h1
  have hn : narrow (jty ci f) (.int x) = .int x ∧ fits (jty ci f) (.int x) = true := by
    rcases ht with h | ⟨h, h0⟩
    · rw [h]; exact ⟨rfl, rfl⟩
    · rw [h]
      rcases h0 with rfl | rfl <;> exact ⟨rfl, rfl⟩
  refine va_put (own := M.2.2.2.2.1) (ref := Cn) (v := .int x) (ty := jty ci f) C.1 C.2.1 C.2.2.2.2.2.2.1 (jin h1) (jty ci) g1 g2 C.2.2.2.2.2.1 C.2.2.2.2.2.2.2.1 hP (jw_D C.2.2.2.2.2.2.2.2.2.1 C.2.2.2.2.2.2.2.2.2.2) hS a ((jw_get G m (jlay_lt ha (by omega))).trans (by rw [jent_obj ha])) h1 f h2 (C.2.2.2.2.2.2.1 _ h4) (fun x h => by rw [h3] at h; exact h) (hw _ _ _ h1) (g1 f h2) hn.1 hn.2 (by simpa [h1b] using h2) hd (fun H1 locs1 hP1 hD1 hS1 => ?_)
  refine k _ rfl p l e G A s mth args below meth c C X H1 locs1 ls hl ?_ hS1
  have e2 : (jw G m).set a (G.2.2 a, .inr (ci, ((List.range (jN ci)).map (jfv G m a ci)).set f (.int x))) = jw G (jup m a (upd (m a) f x)) := jw_set (by rw [jent_obj ha, jfv_set hi (by omega)])
  rw [← e2]
  exact hP1
theorem e_iald {B : jMode} {M : jMeth} {pc : Nat} {L : List (Option Value)} {S : List Value} {m : jM} {a n : Nat} {i : Int32} (hd : decode M.2.1 pc = .ok (.iaload, 1)) (ha : jlay a = (0, n)) (j : Nat) (hi : i = nI j) (hj : j < n) (hn : n < 2 ^ 31) (k : jE B M (pc + 1) L (.int (m a j) :: S) m) : jE B M pc L (.int i :: .ref a :: S) m := by
  intro p l e G A s mth args below meth c C X H locs ls hl hP hS
  subst hi
  refine va_iald C.1 C.2.1 C.2.2.2.2.2.2.2.1 hP a 0 ((jw_get G m (jlay_lt ha (by omega))).trans (by rw [jent_arr ha (by omega)])) rfl (vp_in_nI hj hn) hd ?_
  rw [nI_clamp (by omega)]
  exact k p l e G A s mth args below meth c C X H locs ls hl hP hS
theorem e_zald {B : jMode} {M : jMeth} {pc : Nat} {L : List (Option Value)} {S : List Value} {m : jM} {a n : Nat} {i : Int32} (hd : decode M.2.1 pc = .ok (.baload, 1)) (ha : jlay a = (1, n)) (j : Nat) (hi : i = nI j) (hj : j < n) (hn : n < 2 ^ 31) (k : jE B M (pc + 1) L (.int (m a j) :: S) m) : jE B M pc L (.int i :: .ref a :: S) m := by
  intro p l e G A s mth args below meth c C X H locs ls hl hP hS
  subst hi
  refine va_zald C.1 C.2.1 C.2.2.2.2.2.2.2.1 hP a 1 ((jw_get G m (jlay_lt ha (by omega))).trans (by rw [jent_arr ha (by omega)])) rfl (vp_in_nI hj hn) hd ?_
  rw [nI_clamp (by omega)]
  exact k p l e G A s mth args below meth c C X H locs ls hl hP hS
theorem e_aald {B : jMode} {M : jMeth} {pc : Nat} {L : List (Option Value)} {S : List Value} {m : jM} {a kd n : Nat} {i : Int32} (hd : decode M.2.1 pc = .ok (.aaload, 1)) (ha : jlay a = (kd, n)) (hk : 2 ≤ kd ∧ kd < 5) (j : Nat) (hi : i = nI j) (hj : j < n) (hn : n < 2 ^ 31) {b : Nat} (hb : jtg a j = b) (k : jE B M (pc + 1) L (.ref b :: S) m) : jE B M pc L (.int i :: .ref a :: S) m := by
  intro p l e G A s mth args below meth c C X H locs ls hl hP hS
  subst hi
  subst hb
  have hin : vp_in (nI j) n := vp_in_nI hj hn
  have hcl : (nI j).toNatClampNeg = j := nI_clamp (by omega)
  have hc : H[G.2.2 a]? = some (vp_cell (G.2.1 kd) (n, .inr (.inr (.inr (.inr (fun j => some (G.2.2 (jtg a j)))))))) := by
    have := hP a _ ((jw_get G m (jlay_lt ha (by omega))).trans (by rw [jent_refs ha hk.1 hk.2]))
    exact this
  obtain ⟨ty, t0, ht, hr⟩ : ∃ (ty : FieldType) (t0 : Nat), (jtys G)[t0]? = some (G.2.1 kd, ty) ∧ ty.isReference = true := by
    have : kd = 2 ∨ kd = 3 ∨ kd = 4 := by omega
    rcases this with rfl | rfl | rfl
    · exact ⟨_, 2, rfl, rfl⟩
    · exact ⟨_, 3, rfl, rfl⟩
    · exact ⟨_, 4, rfl, rfl⟩
  refine W.aald (v := .ref (G.2.2 (jtg a j))) (ty := ty) C.1 C.2.1 hc ((C.2.2.2.2.2.2.2.1.2 t0 _ ht).1 n (fun j => va_rf (some (G.2.2 (jtg a j))))) hr (fun q => by cases q) (by show ¬ (nI j < 0 ∨ (arrV _ _ _).slots.size ≤ _); rw [arrV_size]; exact hin) (by show (arrV _ _ _).slots[_]? = _; rw [arrV_read _ _ (by rw [hcl]; exact hj), hcl]; rfl) rfl rfl hd (k p l e G A s mth args below meth c C X H locs ls hl hP hS)
theorem e_iast {B : jMode} {M : jMeth} {pc : Nat} {L : List (Option Value)} {S : List Value} {m : jM} {a n : Nat} {i x : Int32} (hd : decode M.2.1 pc = .ok (.iastore, 1)) (ha : jlay a = (0, n)) (j : Nat) (hi : i = nI j) (hj : j < n) (hn : n < 2 ^ 31) (k : ∀ m1 : jM, m1 = jup m a (upd (m a) j x) → jE B M (pc + 1) L S m1) : jE B M pc L (.int x :: .int i :: .ref a :: S) m := by
  intro p l e G A s mth args below meth c C X H locs ls hl hP hS
  subst hi
  refine va_iast C.1 C.2.1 C.2.2.2.2.2.2.2.1 hP (jw_D C.2.2.2.2.2.2.2.2.2.1 C.2.2.2.2.2.2.2.2.2.2) hS a 0 ((jw_get G m (jlay_lt ha (by omega))).trans (by rw [jent_arr ha (by omega)])) rfl (vp_in_nI hj hn) hd (fun H1 locs1 hP1 hD1 hS1 => ?_)
  rw [nI_clamp (by omega)] at hP1
  refine k _ rfl p l e G A s mth args below meth c C X H1 locs1 ls hl ?_ hS1
  have e2 : (jw G m).set a (G.2.2 a, .inl (G.2.1 0, n, .inl (upd (m a) j x))) = jw G (jup m a (upd (m a) j x)) := jw_set (by rw [jent_arr ha (by omega), jup_s])
  rw [← e2]
  exact hP1
theorem e_zast {B : jMode} {M : jMeth} {pc : Nat} {L : List (Option Value)} {S : List Value} {m : jM} {a n : Nat} {i x : Int32} (hd : decode M.2.1 pc = .ok (.bastore, 1)) (ha : jlay a = (1, n)) (j : Nat) (hi : i = nI j) (hj : j < n) (hn : n < 2 ^ 31) (hx : x = 0 ∨ x = 1) (k : ∀ m1 : jM, m1 = jup m a (upd (m a) j x) → jE B M (pc + 1) L S m1) : jE B M pc L (.int x :: .int i :: .ref a :: S) m := by
  intro p l e G A s mth args below meth c C X H locs ls hl hP hS
  subst hi
  refine va_zast C.1 C.2.1 C.2.2.2.2.2.2.2.1 hP (jw_D C.2.2.2.2.2.2.2.2.2.1 C.2.2.2.2.2.2.2.2.2.2) hS a 1 ((jw_get G m (jlay_lt ha (by omega))).trans (by rw [jent_arr ha (by omega)])) rfl (vp_in_nI hj hn) hd (fun H1 locs1 hP1 hD1 hS1 => ?_)
  rw [nI_clamp (by omega), show vp_nar .boolean x = x by rcases hx with rfl | rfl <;> rfl] at hP1
  refine k _ rfl p l e G A s mth args below meth c C X H1 locs1 ls hl ?_ hS1
  have e2 : (jw G m).set a (G.2.2 a, .inl (G.2.1 1, n, .inl (upd (m a) j x))) = jw G (jup m a (upd (m a) j x)) := jw_set (by rw [jent_arr ha (by omega), jup_s])
  rw [← e2]
  exact hP1
theorem e_alen {B : jMode} {M : jMeth} {pc : Nat} {L : List (Option Value)} {S : List Value} {m : jM} {a n : Nat} (hd : decode M.2.1 pc = .ok (.arraylength, 1)) (ha : jlay a = (0, n)) (k : jE B M (pc + 1) L (.int (nI n) :: S) m) : jE B M pc L (.ref a :: S) m := by
  intro p l e G A s mth args below meth c C X H locs ls hl hP hS
  exact va_alen (v := nI n) C.1 C.2.1 C.2.2.2.2.2.2.2.1 hP a 0 ((jw_get G m (jlay_lt ha (by omega))).trans (by rw [jent_arr ha (by omega)])) rfl rfl hd (k p l e G A s mth args below meth c C X H locs ls hl hP hS)
theorem e_copy {B : jMode} {M : jMeth} {pc : Nat} {L : List (Option Value)} {S : List Value} {m : jM} {index a b na nb : Nat} {i j n : Int32} (hd : decode M.2.1 pc = .ok (.invokestatic index, 3)) (hlk : Cond.methodLink M.2.2.2.2.1 index arraycopyName ∈ wsL_law) (ha : jlay a = (0, na)) (hb : jlay b = (0, nb)) (i' j' n' : Nat) (hi : i = nI i') (hj : j = nI j') (hn : n = nI n') (h1 : i' + n' ≤ na) (h2 : j' + n' ≤ nb) (ha2 : na < 2 ^ 31) (hb2 : nb < 2 ^ 31)
    (hfr : 1 ≤ B.1.frames) (hlo : (S.map fun v => v.category).sum + (nativeFrameWords "java/lang/System" "arraycopy" 5 + 11) ≤ B.1.locals) (k : ∀ m1 : jM, m1 = jup m b (va_cpy (m a) (m b) i' j' n') → jE B M (pc + 3) L S m1) : jE B M pc L (.int n :: .int j :: .ref b :: .int i :: .ref a :: S) m := by
  intro p l e G A s mth args below meth c C X H locs ls hl hP hS
  subst hi hj hn
  have ci : (nI i').toNatClampNeg = i' := nI_clamp (by omega)
  have cj : (nI j').toNatClampNeg = j' := nI_clamp (by omega)
  have cn : (nI n').toNatClampNeg = n' := nI_clamp (by omega)
  have hcat : ((S.map (jtr G)).map fun v => v.category).sum = (S.map fun v => v.category).sum := by
    rw [List.map_map]
    congr 1
    exact List.map_congr_left (fun v _ => jtr_cat G v)
  refine va_copyi C.1 C.2.1 (by rw [C.2.2.1, hl.1]) C.2.2.2.2.2.1 (C.2.2.2.2.2.2.1 _ hlk) (C.2.2.2.2.2.2.1 _ jw_native) (C.2.2.2.2.2.2.1 _ jw_static) (C.2.2.2.2.2.2.1 _ jw_system) C.2.2.2.2.2.2.2.1 hP (jw_D C.2.2.2.2.2.2.2.2.2.1 C.2.2.2.2.2.2.2.2.2.2) hS a b 0 0 ((jw_get G m (jlay_lt ha (by omega))).trans (by rw [jent_arr ha (by omega)])) ((jw_get G m (jlay_lt hb (by omega))).trans (by rw [jent_arr hb (by omega)])) rfl rfl rfl (nI_pos (by omega)) (nI_pos (by omega)) (nI_pos (by omega)) (by rw [ci, cn]; exact h1) (by rw [cj, cn]; exact h2) (fun _ _ => rfl) hfr (by rw [hcat]; exact hlo) hd (fun H1 locs1 hP1 hD1 hS1 => ?_)
  rw [ci, cj, cn] at hP1
  refine k _ rfl p l e G A s mth args below meth c C X H1 locs1 ls hl ?_ hS1
  have e2 : (jw G m).set b (G.2.2 b, .inl (G.2.1 0, nb, .inl (va_cpy (m a) (m b) i' j' n'))) = jw G (jup m b (va_cpy (m a) (m b) i' j' n')) := jw_set (by rw [jent_arr hb (by omega), jup_s])
  rw [← e2]
  exact hP1
/-- the table NEAREST: the cell 113, that nobody writes -/
theorem e_near {B : jMode} {M : jMeth} {pc : Nat} {L : List (Option Value)} {S : List Value} {m : jM} {index : Nat} (hd : decode M.2.1 pc = .ok (.getstatic index, 3)) (hlk : Cond.fieldLink M.2.2.2.2.1 index "JamSongs" "NEAREST" "[I" ∈ wsL_law) (k : jE B M (pc + 3) L (.ref 113 :: S) m) : jE B M pc L S m := by
  intro p l e G A s mth args below meth c C X H locs ls hl hP hS
  exact va_gets C.1 C.2.1 C.2.2.2.2.2.2.2.2.1.1 hS C.2.2.2.2.2.1 (C.2.2.2.2.2.2.1 _ hlk) (fun _ h => h) hd (k p l e G A s mth args below meth c C X H locs ls hl hP hS)
theorem e_nlen {B : jMode} {M : jMeth} {pc : Nat} {L : List (Option Value)} {S : List Value} {m : jM} (hd : decode M.2.1 pc = .ok (.arraylength, 1)) (k : jE B M (pc + 1) L (.int 6 :: S) m) : jE B M pc L (.ref 113 :: S) m := by
  intro p l e G A s mth args below meth c C X H locs ls hl hP hS
  obtain ⟨cell, h1, h2, h3, h4, h5, h6, h7⟩ := C.2.2.2.2.2.2.2.2.1.2
  exact W.alen (n := 6) C.1 C.2.1 ((hS.2.1 _ (Array.getElem?_eq_some_iff.mp h1).1 h7).trans h1) h2 h5 rfl rfl hd (k p l e G A s mth args below meth c C X H locs ls hl hP hS)
theorem e_nld {B : jMode} {M : jMeth} {pc : Nat} {L : List (Option Value)} {S : List Value} {m : jM} {i : Int32} (hd : decode M.2.1 pc = .ok (.iaload, 1)) (j : Nat) (hi : i = nI j) (hj : j < 6) (k : jE B M (pc + 1) L (.int (jnear j) :: S) m) : jE B M pc L (.int i :: .ref 113 :: S) m := by
  intro p l e G A s mth args below meth c C X H locs ls hl hP hS
  subst hi
  obtain ⟨cell, h1, h2, h3, h4, h5, h6, h7⟩ := C.2.2.2.2.2.2.2.2.1.2
  have hcl : (nI j).toNatClampNeg = j := nI_clamp (by omega)
  exact W.iald (v := .int (jnear j)) C.1 C.2.1 ((hS.2.1 _ (Array.getElem?_eq_some_iff.mp h1).1 h7).trans h1) h2 h3 (fun q => by rcases q with q | q; exact nI_pos (by omega) q; omega) (by rw [hcl]; exact h6 j hj) rfl rfl hd (k p l e G A s mth args below meth c C X H locs ls hl hP hS)
/-! calls -/
def jCS (own : String) (idx : Nat) (M' : jMeth) : Prop := Cond.methodLink own idx M'.1 ∈ wsL_law ∧ Cond.static M'.1 ∈ wsL_law ∧ Cond.initialized M'.1.cls ∈ wsL_law ∧ Cond.code M'.1 M'.2.1 M'.2.2.1 M'.2.2.2.1 ∈ wsL_law
def jCV (own : String) (idx : Nat) (M' : jMeth) : Prop := Cond.methodLink own idx M'.1 ∈ wsL_law ∧ Cond.instanceMethod M'.1 ∈ wsL_law ∧ Cond.selects M'.1.cls M'.1 M'.1 ∈ wsL_law ∧ Cond.initialized M'.1.cls ∈ wsL_law ∧ Cond.code M'.1 M'.2.1 M'.2.2.1 M'.2.2.2.1 ∈ wsL_law
def jar (M' : jMeth) (n : Nat) : Bool := decide (M'.1.cls ≠ "java/lang/invoke/MethodHandle") && decide (M'.1.cls ≠ "java/lang/invoke/VarHandle") && decide ((parseMethodDescriptor M'.1.desc).map (fun d => d.parameters.length) = some n)
theorem jar_ok {M' : jMeth} {n : Nat} (h : jar M' n = true) : M'.1.cls ≠ "java/lang/invoke/MethodHandle" ∧ M'.1.cls ≠ "java/lang/invoke/VarHandle" ∧ (parseMethodDescriptor M'.1.desc).map (fun d => d.parameters.length) = some n := by
  unfold jar at h
  rw [Bool.and_eq_true, Bool.and_eq_true] at h
  exact ⟨of_decide_eq_true h.1.1, of_decide_eq_true h.1.2, of_decide_eq_true h.2⟩
theorem jPc_blind (G : jG) (as : List Value) (m : jM) : FrameBlind (jPc G as m) := by
  intro a U g mk q
  obtain ⟨e, hP, hK, hN, hI⟩ := q
  exact ⟨e, hP, va_K.moved (u := U) (U := U.calling g mk a) (Vm.Alike.refl U.vm) hK, ⟨va_Z.moved (u := U) (U := U.calling g mk a) (Vm.Alike.refl U.vm) hN.1, va_T.moved (u := U) (U := U.calling g mk a) (Vm.Alike.refl U.vm) hN.2⟩, hI⟩
theorem jNear_at {G : jG} {A : Nat → Prop} {s U : State} {H : Heap} {locs : List Loc} (h : jNear G A s s.heap) (hS : va_S A s.heap H locs) (hA : ∀ q, jA G q → A q) (hU : U.heap = H) (hvm : s.vm.Alike U.vm) : jNear G (jA G) U U.heap := by
  subst hU
  exact ⟨((h.1.kept (fun a h1 h2 => hS.2.1 a h1 h2)).narrow hA).moved hvm, ((h.2.kept (fun a h1 h2 => hS.2.1 a h1 h2)).narrow hA).moved hvm⟩
theorem e_run {B : jMode} {M : jMeth} {pc : Nat} {L : List (Option Value)} {S st0 : List Value} {Post : Option Value → jM → Prop} {as : Array Value} {p : Program} {l : Launch} {e : Env} {G : jG} {A : Nat → Prop} {s : State} {mth : MethodId} {args : Array Value} {below : List Frame} {meth : Method} {c : Code} (C : jC G A M p s mth args meth c) (X : B.2.2.2.2 G s A) {H : Heap} {locs : List Loc} {ls : Array Slot} (hl : jlv G ls M.2.2.1 L) (hS : va_S A s.heap H locs)
    (hr : va_Run p l e B.1 s mth args below meth c H locs B.2.1 B.2.2.1 0 0 (F0 mth pc ls st0) (S.map (jtr G)) (jQc G Post as) (jA G)) (k : ∀ (r : Option Value) (m1 : jM), Post r m1 → jE B M (pc + 3) L (r.toList ++ S) m1) : W p l e B.1 s mth args below meth c H locs B.2.1 B.2.2.1 (B.2.2.2.1 G s A args below) (F0 mth pc ls st0) := by
  have hA : ∀ q, jA G q → A q := fun q ⟨k, h1, h2⟩ => by rw [h2]; exact C.2.2.2.2.2.2.2.2.2.2 k h1
  intro T hT Xs
  obtain ⟨v, st₀, t, T', L', h0, X', hL, e1, e2, ⟨⟨r, m1, hpost, hv, hp⟩, hz, hk⟩, st⟩ := hr T hT Xs
  have hv : v = r.map (jtr G) := Outcome.returned.inj hv
  subst hv
  rw [h0] at hz hk
  have hS1 : va_S A s.heap T'.heap (locs ++ L') := ⟨Nat.le_trans hS.1 (by rw [e1]; exact hz), fun q h1 h2 => by rw [e1, hk q (Nat.lt_of_lt_of_le h1 hS.1) (fun z => h2 (hA q z))]; exact hS.2.1 q h1 h2, fun q hq => by
      rcases List.mem_append.mp hq with h | h
      · exact hS.2.2 q h
      · exact hA _ (hL q h)⟩
  have e3 : (r.map (jtr G)).toList ++ S.map (jtr G) = (r.toList ++ S).map (jtr G) := by cases r <;> rfl
  have := k r m1 hpost p l e G A s mth args below meth c C X T'.heap (locs ++ L') ls hl (by rw [e1]; exact hp) hS1 T' rfl X'
  rw [← e3] at this
  obtain ⟨t2, a1, b1⟩ := this
  exact ⟨t2, st t2 a1, b1⟩
theorem jsum {G : jG} {S : List Value} (h : (S.map fun v => v.category).sum ≤ 8) : ((S.map (jtr G)).map fun v => v.category).sum ≤ 8 := by
  rw [List.map_map]
  have : (S.map ((fun v : Value => v.category) ∘ jtr G)) = S.map fun v => v.category := List.map_congr_left (fun v _ => jtr_cat G v)
  rw [this]
  exact h
def jfit (R : Room) (M' : jMeth) : Bool := Nat.ble (M'.2.2.2.2.2.1 + 1) R.frames && Nat.ble (8 + (M'.2.2.1 + 11) + M'.2.2.2.2.2.2) R.locals
theorem jfit_ok {R : Room} {M' : jMeth} (h : jfit R M' = true) : (jrm M').frames + 1 ≤ R.frames ∧ 8 + (M'.2.2.1 + 11) + (jrm M').locals ≤ R.locals := by
  unfold jfit at h
  rw [Bool.and_eq_true] at h
  exact ⟨Nat.le_of_ble_eq_true h.1, Nat.le_of_ble_eq_true h.2⟩
theorem e_callS {B : jMode} {M : jMeth} (M' : jMeth) {pc : Nat} {L : List (Option Value)} {S st : List Value} {m : jM} {Post : Option Value → jM → Prop} {index n : Nat} (as : List Value) (hd : decode M.2.1 pc = .ok (.invokestatic index, 3)) (hc : jCS M.2.2.2.2.1 index M') (hn : as.length = n) (har : jar M' n = true) (hfit : jfit B.1 M' = true) (hst : st = as.reverse ++ S) (hsum : (S.map fun v => v.category).sum ≤ 8) (hx : jX M' as m Post) (k : ∀ (r : Option Value) (m1 : jM), Post r m1 → jE B M (pc + 3) L (r.toList ++ S) m1) (hBc : B.2.1 ≤ B.1.cells ∧ B.2.2.1 ≤ B.1.slots) : jE B M pc L st m := by
  intro p l e G A s mth args below meth c C X H locs ls hl hP hS
  subst hst
  have hA : ∀ q, jA G q → A q := fun q ⟨k, h1, h2⟩ => by rw [h2]; exact C.2.2.2.2.2.2.2.2.2.2 k h1
  have est : (as.reverse ++ S).map (jtr G) = (as.map (jtr G)).reverse ++ S.map (jtr G) := by rw [List.map_append, List.map_reverse]
  rw [est]
  refine e_run C X hl hS (as := (as.map (jtr G)).toArray) ?_ k
  exact va_runS (Ts := wsL_law) (own := M.2.2.2.2.1) (y := M'.1) (bytes := M'.2.1) (maxL := M'.2.2.1) (ret := M'.2.2.2.1) (ws := jws M') (rm := jrm M') (n := n) ⟨C.1, C.2.1, C.2.2.1, C.2.2.2.2.2.1, C.2.2.2.2.2.2.1⟩ (hx l G)
    (va_cwS n C.2.2.2.2.2.2.1 (jgoodIn (fun w hw => by
      rcases List.mem_append.mp hw with h | h
      · simp only [List.mem_cons, List.not_mem_nil, or_false] at h
        rcases h with rfl | rfl | rfl
        · exact hc.1
        · exact hc.2.1
        · exact hc.2.2.1
      · rcases List.mem_cons.mp h with rfl | h
        · exact hc.2.2.2
        · exact h)) rfl rfl rfl (jar_ok har) (jfit_ok hfit))
    ⟨jPc_blind G as m, fun U hU hW => ⟨rfl, by rw [hU]; exact hP, va_K.moved hW.alike C.2.2.2.2.2.2.2.1, jNear_at C.2.2.2.2.2.2.2.2.1 hS hA hU hW.alike, C.2.2.2.2.2.2.2.2.2.1⟩⟩ rfl (by rw [List.length_map]; exact hn) hl.1 rfl (lv_room (jsum hsum)) hd hBc
theorem e_callV {B : jMode} {M : jMeth} (M' : jMeth) {pc : Nat} {L : List (Option Value)} {S st : List Value} {m : jM} {Post : Option Value → jM → Prop} {index n a ci : Nat} (as : List Value) (hd : decode M.2.1 pc = .ok (.invokevirtual index, 3)) (hc : jCV M.2.2.2.2.1 index M') (hn : as.length = n) (har : jar M' n = true) (hfit : jfit B.1 M' = true) (ha : jlay a = (5, ci)) (hci : (jCl[ci]?).map (fun q => q.1) = some M'.1.cls) (hst : st = as.reverse ++ .ref a :: S) (hsum : (S.map fun v => v.category).sum ≤ 8) (hx : jX M' (.ref a :: as) m Post) (k : ∀ (r : Option Value) (m1 : jM), Post r m1 → jE B M (pc + 3) L (r.toList ++ S) m1) (hBc : B.2.1 ≤ B.1.cells ∧ B.2.2.1 ≤ B.1.slots) : jE B M pc L st m := by
  intro p l e G A s mth args below meth c C X H locs ls hl hP hS
  subst hst
  have hA : ∀ q, jA G q → A q := fun q ⟨k, h1, h2⟩ => by rw [h2]; exact C.2.2.2.2.2.2.2.2.2.2 k h1
  have est : (as.reverse ++ .ref a :: S).map (jtr G) = (as.map (jtr G)).reverse ++ .ref (G.2.2 a) :: S.map (jtr G) := by rw [List.map_append, List.map_reverse]; rfl
  rw [est]
  obtain ⟨cl, hcl⟩ : ∃ q, jCl[ci]? = some q := by
    cases h : jCl[ci]? with
    | none => rw [h] at hci; cases hci
    | some q => exact ⟨q, rfl⟩
  have hcls : cl.1 = M'.1.cls := by rw [hcl] at hci; exact Option.some.inj hci
  have hrecv := va_recv (cl := jCl) C.2.2.2.2.2.2.2.1 hP hcl (q0 := a) ((jw_get G m (jlay_lt ha (by omega))).trans (by rw [jent_obj ha]))
  rw [hcls] at hrecv
  refine e_run C X hl hS (as := (Value.ref (G.2.2 a) :: as.map (jtr G)).toArray) ?_ k
  exact va_runV (Ts := wsL_law) (own := M.2.2.2.2.1) (C := M'.1.cls) (y := M'.1) (bytes := M'.2.1) (maxL := M'.2.2.1) (ret := M'.2.2.2.1) (ws := jws M') (rm := jrm M') (n := n) ⟨C.1, C.2.1, C.2.2.1, C.2.2.2.2.2.1, C.2.2.2.2.2.2.1⟩ (hx l G)
    (cwV n C.2.2.2.2.2.2.1 (jgoodIn (fun w hw => by
      rcases List.mem_append.mp hw with h | h
      · simp only [List.mem_cons, List.not_mem_nil, or_false] at h
        rcases h with rfl | rfl | rfl | rfl
        · exact hc.1
        · exact hc.2.1
        · exact hc.2.2.1
        · exact hc.2.2.2.1
      · rcases List.mem_cons.mp h with rfl | h
        · exact hc.2.2.2.2
        · exact h)) rfl rfl rfl ⟨rfl, jar_ok har⟩ (jfit_ok hfit))
    ⟨jPc_blind G (.ref a :: as) m, hrecv, fun U hU hW => ⟨rfl, by rw [hU]; exact hP, va_K.moved hW.alike C.2.2.2.2.2.2.2.1, jNear_at C.2.2.2.2.2.2.2.2.1 hS hA hU hW.alike, C.2.2.2.2.2.2.2.2.2.1⟩⟩ rfl (by rw [List.length_map]; exact hn) hl.1 rfl (lv_room (jsum hsum)) hd hBc
theorem e_callSi {B : jMode} {M : jMeth} (M' : jMeth) {pc : Nat} {L : List (Option Value)} {S st : List Value} {m : jM}  {Q : Int32 → jM → Prop} {index n : Nat} (as : List Value) (hd : decode M.2.1 pc = .ok (.invokestatic index, 3)) (hc : jCS M.2.2.2.2.1 index M') (hn : as.length = n) (har : jar M' n = true) (hfit : jfit B.1 M' = true) (hst : st = as.reverse ++ S) (hsum : (S.map fun v => v.category).sum ≤ 8) (hBc : B.2.1 ≤ B.1.cells ∧ B.2.2.1 ≤ B.1.slots) (hx : iX M' as m Q) (k : ∀ (v : Int32) (m1 : jM), Q v m1 → jE B M (pc + 3) L (.int v :: S) m1) : jE B M pc L st m :=
  e_callS M' as hd hc hn har hfit hst hsum hx (fun r m1 ⟨v, hr, hq⟩ => by subst hr; exact k v m1 hq) hBc
theorem e_callSv {B : jMode} {M : jMeth} (M' : jMeth) {pc : Nat} {L : List (Option Value)} {S st : List Value} {m : jM}  {Q : jM → Prop} {index n : Nat} (as : List Value) (hd : decode M.2.1 pc = .ok (.invokestatic index, 3)) (hc : jCS M.2.2.2.2.1 index M') (hn : as.length = n) (har : jar M' n = true) (hfit : jfit B.1 M' = true) (hst : st = as.reverse ++ S) (hsum : (S.map fun v => v.category).sum ≤ 8) (hBc : B.2.1 ≤ B.1.cells ∧ B.2.2.1 ≤ B.1.slots) (hx : vX M' as m Q) (k : ∀ (m1 : jM), Q m1 → jE B M (pc + 3) L S m1) : jE B M pc L st m :=
  e_callS M' as hd hc hn har hfit hst hsum hx (fun r m1 ⟨hr, hq⟩ => by subst hr; exact k m1 hq) hBc
theorem e_callVi {B : jMode} {M : jMeth} (M' : jMeth) {pc : Nat} {L : List (Option Value)} {S st : List Value} {m : jM}  {Q : Int32 → jM → Prop} {index n a ci : Nat} (as : List Value) (hd : decode M.2.1 pc = .ok (.invokevirtual index, 3)) (hc : jCV M.2.2.2.2.1 index M') (hn : as.length = n) (har : jar M' n = true) (hfit : jfit B.1 M' = true) (ha : jlay a = (5, ci)) (hci : (jCl[ci]?).map (fun q => q.1) = some M'.1.cls) (hst : st = as.reverse ++ .ref a :: S) (hsum : (S.map fun v => v.category).sum ≤ 8) (hBc : B.2.1 ≤ B.1.cells ∧ B.2.2.1 ≤ B.1.slots) (hx : iX M' (.ref a :: as) m Q) (k : ∀ (v : Int32) (m1 : jM), Q v m1 → jE B M (pc + 3) L (.int v :: S) m1) : jE B M pc L st m :=
  e_callV M' as hd hc hn har hfit ha hci hst hsum hx (fun r m1 ⟨v, hr, hq⟩ => by subst hr; exact k v m1 hq) hBc
theorem e_callVv {B : jMode} {M : jMeth} (M' : jMeth) {pc : Nat} {L : List (Option Value)} {S st : List Value} {m : jM}  {Q : jM → Prop} {index n a ci : Nat} (as : List Value) (hd : decode M.2.1 pc = .ok (.invokevirtual index, 3)) (hc : jCV M.2.2.2.2.1 index M') (hn : as.length = n) (har : jar M' n = true) (hfit : jfit B.1 M' = true) (ha : jlay a = (5, ci)) (hci : (jCl[ci]?).map (fun q => q.1) = some M'.1.cls) (hst : st = as.reverse ++ .ref a :: S) (hsum : (S.map fun v => v.category).sum ≤ 8) (hBc : B.2.1 ≤ B.1.cells ∧ B.2.2.1 ≤ B.1.slots) (hx : vX M' (.ref a :: as) m Q) (k : ∀ (m1 : jM), Q m1 → jE B M (pc + 3) L S m1) : jE B M pc L st m :=
  e_callV M' as hd hc hn har hfit ha hci hst hsum hx (fun r m1 ⟨hr, hq⟩ => by subst hr; exact k m1 hq) hBc
