/-! ===== the memory as a list of what was done, the latest first: a row born (a, 0, none), rows of rows born (a, n, none), a place written (a, k, some x) ===== -/
abbrev gopT : Type := Nat × Nat × Option Int32
def gop (m : jM) (o : gopT) : jM := match o with
  | (c, k, some x) => jup m c (upd (m c) k x)
  | (c, 0, none) => jup m c (fun _ => 0)
  | (c, n + 1, none) => fun d => if d = c then (fun j => if j < n + 1 then 1 else 0) else if c < d ∧ d < c + 1 + (n + 1) then (fun _ => 0) else m d
def gm (m : jM) : List gopT → jM
  | [] => m
  | o :: l => gop (gm m l) o
def gz : jM := fun _ _ => 0
theorem gm_app (m : jM) (A o : List gopT) : gm (gm m o) A = gm m (A ++ o) := by
  induction A with
  | nil => rfl
  | cons x A ih => show gop (gm (gm m o) A) x = gop (gm m (A ++ o)) x; rw [ih]
theorem g_newI {B : gMode} {M : jMeth} {pc : Nat} {L : List (Option Value)} {S : List Value} {m : jM} {o : List gopT} {t0 n0 k0 : Nat} {x : Int32} {c1 N : Nat} (hd : decode M.2.1 pc = .ok (.newarray .int, 2)) (ha : jlay c1 = (0, N)) (hx : ¬ x < 0) (hx2 : x.toNatClampNeg = N) (hj : jor c1 = t0) (hb : N * 4 ≤ 536870912) (hn : n0 + 1 ≤ B.1.cells) (hk : k0 + N ≤ B.1.slots)
    (k : gE B M (pc + 2) L (.ref c1 :: S) (gm m ((c1, 0, none) :: o)) (t0 + 1) (n0 + 1) (k0 + N)) : gE B M pc L (.int x :: S) (gm m o) t0 n0 k0 :=
  g_newa (at1 := .int) (kd := 0) hd (List.mem_of_getElem? (i := 25) (by decide +kernel)) rfl hb (fun _ _ h => (h.2 0 _ rfl).2) ha (by decide) hx hx2 hj hn hk (fun m1 h1 => by subst h1; exact k)
theorem g_newZ {B : gMode} {M : jMeth} {pc : Nat} {L : List (Option Value)} {S : List Value} {m : jM} {o : List gopT} {t0 n0 k0 : Nat} {x : Int32} {c1 N : Nat} (hd : decode M.2.1 pc = .ok (.newarray .boolean, 2)) (ha : jlay c1 = (1, N)) (hx : ¬ x < 0) (hx2 : x.toNatClampNeg = N) (hj : jor c1 = t0) (hb : N * 1 ≤ 536870912) (hn : n0 + 1 ≤ B.1.cells) (hk : k0 + N ≤ B.1.slots)
    (k : gE B M (pc + 2) L (.ref c1 :: S) (gm m ((c1, 0, none) :: o)) (t0 + 1) (n0 + 1) (k0 + N)) : gE B M pc L (.int x :: S) (gm m o) t0 n0 k0 :=
  g_newa (at1 := .boolean) (kd := 1) hd (List.mem_of_getElem? (i := 91) (by decide +kernel)) rfl hb (fun _ _ h => (h.2 1 _ rfl).2) ha (by decide) hx hx2 hj hn hk (fun m1 h1 => by subst h1; exact k)
theorem g_newqq {B : gMode} {M : jMeth} {pc : Nat} {L : List (Option Value)} {S : List Value} {m : jM} {o : List gopT} {t0 n0 k0 : Nat} {index : Nat} {x : Int32} {c1 kd N : Nat} {Cn : String} (hd : decode M.2.1 pc = .ok (.anewarray index, 3)) (hw1 : Cond.classLink M.2.2.2.2.1 index Cn ∈ wsL_law) (hov : ∀ s, gW s → va_AO Cn s) (hb : N * 4 ≤ 536870912) (hra : ∀ (G : jG) (s : State), va_K G.1 jCl (jtys G) s → s.vm.findClass ("[" ++ (FieldType.object Cn).toString) = some (G.2.1 kd)) (ha : jlay c1 = (kd, N)) (hkd : 2 ≤ kd ∧ kd < 5) (hx : ¬ x < 0) (hx2 : x.toNatClampNeg = N) (hj : jor c1 = t0) (hn : n0 + 1 ≤ B.1.cells) (hk : k0 + N ≤ B.1.slots)
    (k : gE B M (pc + 3) L (.ref c1 :: S) (gm m ((c1, 0, none) :: o)) (t0 + 1) (n0 + 1) (k0 + N)) : gE B M pc L (.int x :: S) (gm m o) t0 n0 k0 :=
  g_newq hd hw1 hov hb hra ha hkd hx hx2 hj hn hk (fun m1 h1 => by subst h1; exact k)
theorem g_mnaq {B : gMode} {M : jMeth} {pc : Nat} {L : List (Option Value)} {S : List Value} {m : jM} {o : List gopT} {t0 n0 k0 : Nat} {index : Nat} {x y : Int32} {c1 n K : Nat} {N : Nat} (hd : decode M.2.1 pc = .ok (.multianewarray index 2, 4)) (hw1 : Cond.classLink M.2.2.2.2.1 index ("[" ++ (FieldType.array .int).toString) ∈ wsL_law) (hw2 : Cond.arrayClass .int ∈ wsL_law) (ha : jlay c1 = (4, N)) (hin : ∀ j, j < N → jlay (c1 + 1 + j) = (0, K)) (hx : ¬ x < 0) (hx2 : x.toNatClampNeg = N) (hy : ¬ y < 0) (hy2 : y.toNatClampNeg = K) (hb : N * 4 ≤ 536870912) (hb2 : K * 4 ≤ 536870912) (hb3 : K ≤ 536870912) (hj : jor c1 = t0) (hji : ∀ j, j < N → jor (c1 + 1 + j) = t0 + 1 + j) (htg : ∀ j, j < N → jtg c1 j = c1 + 1 + j) (hn : n0 + (1 + N) ≤ B.1.cells) (hk : k0 + (N + N * K) ≤ B.1.slots) (hN : N = n + 1)
    (k : gE B M (pc + 4) L (.ref c1 :: S) (gm m ((c1, N, none) :: o)) (t0 + (1 + N)) (n0 + (1 + N)) (k0 + (N + N * K))) : gE B M pc L (.int y :: .int x :: S) (gm m o) t0 n0 k0 := by
  subst hN
  exact g_mna hd hw1 hw2 ha hin hx hx2 hy hy2 hb hb2 hb3 hj hji htg hn hk (fun m1 h1 => by subst h1; exact k)
theorem g_newo {B : gMode} {M : jMeth} {pc : Nat} {L : List (Option Value)} {S : List Value} {m : jM} {o : List gopT} {t0 n0 k0 : Nat} {index c1 ci : Nat} {Cn : String} {T : u_T} {N : Nat} (hd : decode M.2.1 pc = .ok (.new index, 3)) (hc : jCl[ci]? = some (Cn, T, N)) (hw1 : Cond.classLink M.2.2.2.2.1 index Cn ∈ wsL_law) (hw2 : Cond.instantiable Cn N ∈ wsL_law) (hw3 : Cond.initialized Cn ∈ wsL_law) (ha : jlay c1 = (5, ci)) (hj : jor c1 = t0) (hn : n0 + 1 ≤ B.1.cells) (hk : k0 + N ≤ B.1.slots)
    (k : gE B M (pc + 3) L (.ref c1 :: S) (gm m ((c1, 0, none) :: o)) (t0 + 1) (n0 + 1) (k0 + N)) : gE B M pc L S (gm m o) t0 n0 k0 :=
  g_new hd hc hw1 hw2 hw3 ha hj hn hk (fun m1 h1 => by subst h1; exact k)
theorem g_putIq {B : gMode} {M : jMeth} {pc : Nat} {L : List (Option Value)} {S : List Value} {m : jM} {o : List gopT} {t0 n0 k0 : Nat} {index a ci f : Nat} {x : Int32} (hd : decode M.2.1 pc = .ok (.putfield index, 3)) (hf : jFL M.2.2.2.2.1 index ci f) (ha : jlay a = (5, ci)) (hj : jor a < t0) (hi : jfo ci f = 0) (hn : narrow (jty ci f) (.int x) = .int x ∧ fits (jty ci f) (.int x) = true) (hw : jFW ci f)
    (k : gE B M (pc + 3) L S (gm m ((a, f, some x) :: o)) t0 n0 k0) : gE B M pc L (.int x :: .ref a :: S) (gm m o) t0 n0 k0 :=
  g_putI hd hf ha hj hi hn hw (fun m1 h1 => by subst h1; exact k)
theorem g_putRq {B : gMode} {M : jMeth} {pc : Nat} {L : List (Option Value)} {S : List Value} {m : jM} {o1 : List gopT} {t0 n0 k0 : Nat} {index a ci f o b : Nat} (hd : decode M.2.1 pc = .ok (.putfield index, 3)) (hf : jFL M.2.2.2.2.1 index ci f) (ha : jlay a = (5, ci)) (hj : jor a < t0) (hi : jfo ci f = o) (ho : o ≠ 0) (hb : a + o = b) (hn : ∀ q : Nat, narrow (jty ci f) (.ref q) = .ref q ∧ fits (jty ci f) (.ref q) = true) (hname : M.1.name = "<init>") (hw : ∀ (C : String) (T : u_T) (N : Nat), jCl[ci]? = some (C, T, N) → (T f).2.2.2 = true ∧ C = M.2.2.2.2.1)
    (k : gE B M (pc + 3) L S (gm m ((a, f, some 1) :: o1)) t0 n0 k0) : gE B M pc L (.ref b :: .ref a :: S) (gm m o1) t0 n0 k0 :=
  g_putR hd hf ha hj hi ho hb hn hname hw (fun m1 h1 => by subst h1; exact k)
theorem g_iastq {B : gMode} {M : jMeth} {pc : Nat} {L : List (Option Value)} {S : List Value} {m : jM} {o : List gopT} {t0 n0 k0 : Nat} {a n : Nat} {i x : Int32} (hd : decode M.2.1 pc = .ok (.iastore, 1)) (ha : jlay a = (0, n)) (hja : jor a < t0) (j : Nat) (hi : i = nI j) (hj : j < n) (hn : n < 2 ^ 31) (k : gE B M (pc + 1) L S (gm m ((a, j, some x) :: o)) t0 n0 k0) : gE B M pc L (.int x :: .int i :: .ref a :: S) (gm m o) t0 n0 k0 :=
  g_iast hd ha hja j hi hj hn (fun m1 h1 => by subst h1; exact k)
theorem g_aastq {B : gMode} {M : jMeth} {pc : Nat} {L : List (Option Value)} {S : List Value} {m : jM} {o : List gopT} {t0 n0 k0 : Nat} {a n kd ci b : Nat} {i : Int32} {r : vw_C} (hd : decode M.2.1 pc = .ok (.aastore, 1)) (ha : jlay a = (kd, n)) (hkd : 2 ≤ kd ∧ kd < 5) (hja : jor a < t0) (hb : jlay b = (5, ci)) (hjb : jor b < t0) (hc : jCl[ci]? = some r) (ht : ∀ G : jG, (jtys G)[kd]? = some (G.2.1 kd, .object r.1)) (j : Nat) (hi : i = nI j) (hj : j < n) (hn : n < 2 ^ 31) (htg : jtg a j = b) (k : gE B M (pc + 1) L S (gm m ((a, j, some 1) :: o)) t0 n0 k0) : gE B M pc L (.ref b :: .int i :: .ref a :: S) (gm m o) t0 n0 k0 :=
  g_aast hd ha hkd hja hb hjb hc ht j hi hj hn htg (fun m1 h1 => by subst h1; exact k)
theorem g_callNq {B : gMode} {M : jMeth} (M' : jMeth) {pc : Nat} {L : List (Option Value)} {S : List Value} {m : jM} {o A : List gopT} {t0 n0 k0 t1 mc ms : Nat} {index a : Nat} (hd : decode M.2.1 pc = .ok (.invokespecial index, 3)) (hlk : ∀ s, gW s → va_Nw (.methodLinkNest M.2.2.2.2.1 index M'.1 "JamSongs") s) (hini : Cond.initialized M'.1.cls ∈ wsL_law) (hins : Cond.instanceMethod M'.1 ∈ wsL_law) (hco : Cond.code M'.1 M'.2.1 M'.2.2.1 none ∈ wsL_law) (hret : M'.2.2.2.1 = none) (hnm : M'.1.name = "<init>") (har : jar M' 0 = true) (hfit : jfit B.1 M' = true) (hsum : (S.map fun v => v.category).sum ≤ 8) (hBc : n0 + mc ≤ B.1.cells ∧ k0 + ms ≤ B.1.slots) (hx : ∀ m, gX M' [.ref a] m t0 t1 mc ms (fun m1 => m1 = gm m A)) (k : gE B M (pc + 3) L S (gm m (A ++ o)) t1 (n0 + mc) (k0 + ms)) : gE B M pc L (.ref a :: S) (gm m o) t0 n0 k0 :=
  g_callN M' hd hlk hini hins hco hret hnm har hfit hsum hBc (hx _) (fun m1 h1 => by subst h1; rw [gm_app]; exact k)
def mX0_init : jMeth := (yX0_init, cX0_init, 1, none, RX0, 1, 12)
set_option maxRecDepth 100000 in
theorem cd_mX0_init : Cond.code yX0_init cX0_init 1 none ∈ wsL_law := List.mem_of_getElem? (i := 52) rfl
def mX1_init : jMeth := (yX1_init, cX1_init, 1, none, RX1, 1, 12)
set_option maxRecDepth 100000 in
theorem cd_mX1_init : Cond.code yX1_init cX1_init 1 none ∈ wsL_law := List.mem_of_getElem? (i := 70) rfl
def mX2_init : jMeth := (yX2_init, cX2_init, 1, none, RX2, 1, 12)
set_option maxRecDepth 100000 in
theorem cd_mX2_init : Cond.code yX2_init cX2_init 1 none ∈ wsL_law := List.mem_of_getElem? (i := 42) rfl
def mX3_init : jMeth := (yX3_init, cX3_init, 2, none, RX3, 2, 32)
set_option maxRecDepth 100000 in
theorem cd_mX3_init : Cond.code yX3_init cX3_init 2 none ∈ wsL_law := List.mem_of_getElem? (i := 8) rfl
def mX4_init : jMeth := (yX4_init, cX4_init, 2, none, RX4, 1, 12)
set_option maxRecDepth 100000 in
theorem cd_mX4_init : Cond.code yX4_init cX4_init 2 none ∈ wsL_law := List.mem_of_getElem? (i := 78) rfl
def kX1 (a : Nat) : List gopT := (a, 3, some 1) :: (a + 1, 0, none) :: (a, 2, some 0) :: (a, 1, some 0) :: (a, 0, some 0) :: []
def kX2 (a : Nat) : List gopT := (a, 6, some 0) :: (a, 5, some 0) :: (a, 4, some (-1)) :: (a, 3, some 0) :: (a, 2, some 0) :: (a, 1, some 0) :: (a, 0, some 1) :: (a + 1, 0, none) :: []
def kX0 (a : Nat) : List gopT := (a, 14, some 1) :: (a + 10, 0, none) :: (a, 13, some 1) :: (a + 9, 0, none) :: (a, 12, some 1) :: (a + 8, 0, none) :: (a, 11, some 1) :: (a + 7, 0, none) :: (a, 10, some 0) :: (a, 9, some 1) :: (a + 6, 0, none) :: (a, 8, some 1) :: (a + 5, 0, none) :: (a, 7, some 1) :: (a + 4, 0, none) :: (a, 6, some 0) :: (a, 5, some 1) :: (a + 3, 0, none) :: (a, 4, some 1) :: (a + 2, 0, none) :: (a, 3, some 1) :: (a + 1, 0, none) :: (a, 2, some 0) :: (a, 1, some 0) :: (a, 0, some 0) :: []
def kX3 : List gopT := (42, 1, some 1) :: kX0 54 ++ ((54, 0, none) :: (42, 0, some 1) :: kX0 43 ++ ((43, 0, none) :: (1, 7, some 1) :: kX1 16 ++ ((16, 0, none) :: (1, 6, some 1) :: kX1 14 ++ ((14, 0, none) :: (1, 5, some 1) :: kX1 12 ++ ((12, 0, none) :: (1, 4, some 1) :: kX1 10 ++ ((10, 0, none) :: (1, 3, some 1) :: kX1 8 ++ ((8, 0, none) :: (1, 2, some 1) :: kX1 6 ++ ((6, 0, none) :: (1, 1, some 1) :: kX1 4 ++ ((4, 0, none) :: (1, 0, some 1) :: kX1 2 ++ ((2, 0, none) :: (0, 17, some 0) :: (0, 16, some 0) :: (0, 15, some 0) :: (0, 14, some 1) :: (97, 0, none) :: (0, 13, some 0) :: (0, 12, some 0) :: (0, 11, some 0) :: (0, 10, some 1) :: (92, 4, none) :: (0, 9, some 1) :: (91, 0, none) :: (0, 8, some 1) :: (90, 0, none) :: (0, 7, some 0) :: (0, 6, some 0) :: (0, 5, some 1) :: (65, 24, none) :: (0, 4, some 1) :: (42, 0, none) :: (0, 3, some 1) :: kX0 31 ++ ((31, 0, none) :: (0, 2, some 1) :: kX0 20 ++ ((20, 0, none) :: (0, 1, some 1) :: kX2 18 ++ ((18, 0, none) :: (0, 0, some 1) :: (1, 0, none) :: [(0, 0, none)])))))))))))))
def kX4 : List gopT := (100, 7, some (-1)) :: (100, 6, some (-1)) :: (100, 5, some (-1)) :: (100, 4, some (-1)) :: (100, 3, some (-1)) :: (100, 2, some (-1)) :: (100, 1, some (-1)) :: (100, 0, some (-1)) :: (98, 24, some 1) :: (112, 0, none) :: (98, 23, some 1) :: (111, 0, none) :: (98, 22, some 1) :: (110, 0, none) :: (98, 20, some 1) :: (109, 0, none) :: (98, 19, some 1) :: (108, 0, none) :: (98, 17, some 1) :: (107, 0, none) :: (98, 16, some 1) :: (106, 0, none) :: (98, 15, some 1) :: (105, 0, none) :: (98, 7, some 1) :: (104, 0, none) :: (98, 6, some 1) :: (103, 0, none) :: (98, 5, some 1) :: (102, 0, none) :: (98, 2, some 1) :: (101, 0, none) :: (98, 1, some 1) :: (100, 0, none) :: (98, 0, some 1) :: (99, 0, none) :: (98, 0, none) :: kX3
theorem kX1_2 (m : jM) : gX mX1_init [.ref 2] m 61 62 1 40 (fun m1 => m1 = gm m (kX1 2)) := by
  refine gX_of (L := [some (.ref 2)]) 0 rfl rfl (by decide +kernel) rfl ?_
  show gE _ _ 0 _ _ (gm m []) _ _ _
  refine g_aload_n dX1_init_0 rfl ?_
  refine g_objInit dX1_init_1 (List.mem_of_getElem? (i := 71) (by decide +kernel)) (Nat.le_of_ble_eq_true rfl) (Nat.le_of_ble_eq_true rfl) ?_
  refine g_aload_n dX1_init_4 rfl ?_
  refine g_iconst (v := 0) dX1_init_5 rfl ?_
  refine g_putIq dX1_init_6 lkX1_9 (rfl : jlay 2 = (5, 1)) (Nat.le_of_ble_eq_true rfl) rfl ⟨rfl, rfl⟩ fwX1_0 ?_
  refine g_aload_n dX1_init_9 rfl ?_
  refine g_iconst (v := 0) dX1_init_10 rfl ?_
  refine g_putIq dX1_init_11 lkX1_15 (rfl : jlay 2 = (5, 1)) (Nat.le_of_ble_eq_true rfl) rfl ⟨rfl, rfl⟩ fwX1_1 ?_
  refine g_aload_n dX1_init_14 rfl ?_
  refine g_iconst (v := 0) dX1_init_15 rfl ?_
  refine g_putIq dX1_init_16 lkX1_19 (rfl : jlay 2 = (5, 1)) (Nat.le_of_ble_eq_true rfl) rfl ⟨rfl, rfl⟩ fwX1_2 ?_
  refine g_aload_n dX1_init_19 rfl ?_
  refine g_bipush (v := 40) dX1_init_20 rfl ?_
  refine g_newI (c1 := 3) (N := 40) dX1_init_22 rfl (by decide) (by decide) rfl (Nat.le_of_ble_eq_true rfl) (Nat.le_of_ble_eq_true rfl) (Nat.le_of_ble_eq_true rfl) ?_
  refine g_putRq (o := 1) dX1_init_24 lkX1_22 (rfl : jlay 2 = (5, 1)) (Nat.le_of_ble_eq_true rfl) rfl (by decide) rfl (fun _ => ⟨rfl, rfl⟩) rfl (fun _ _ _ h => by cases h; exact ⟨rfl, rfl⟩) ?_
  exact g_vret dX1_init_27 rfl rfl rfl rfl rfl
theorem kX1_4 (m : jM) : gX mX1_init [.ref 4] m 63 64 1 40 (fun m1 => m1 = gm m (kX1 4)) := by
  refine gX_of (L := [some (.ref 4)]) 0 rfl rfl (by decide +kernel) rfl ?_
  show gE _ _ 0 _ _ (gm m []) _ _ _
  refine g_aload_n dX1_init_0 rfl ?_
  refine g_objInit dX1_init_1 (List.mem_of_getElem? (i := 71) (by decide +kernel)) (Nat.le_of_ble_eq_true rfl) (Nat.le_of_ble_eq_true rfl) ?_
  refine g_aload_n dX1_init_4 rfl ?_
  refine g_iconst (v := 0) dX1_init_5 rfl ?_
  refine g_putIq dX1_init_6 lkX1_9 (rfl : jlay 4 = (5, 1)) (Nat.le_of_ble_eq_true rfl) rfl ⟨rfl, rfl⟩ fwX1_0 ?_
  refine g_aload_n dX1_init_9 rfl ?_
  refine g_iconst (v := 0) dX1_init_10 rfl ?_
  refine g_putIq dX1_init_11 lkX1_15 (rfl : jlay 4 = (5, 1)) (Nat.le_of_ble_eq_true rfl) rfl ⟨rfl, rfl⟩ fwX1_1 ?_
  refine g_aload_n dX1_init_14 rfl ?_
  refine g_iconst (v := 0) dX1_init_15 rfl ?_
  refine g_putIq dX1_init_16 lkX1_19 (rfl : jlay 4 = (5, 1)) (Nat.le_of_ble_eq_true rfl) rfl ⟨rfl, rfl⟩ fwX1_2 ?_
  refine g_aload_n dX1_init_19 rfl ?_
  refine g_bipush (v := 40) dX1_init_20 rfl ?_
  refine g_newI (c1 := 5) (N := 40) dX1_init_22 rfl (by decide) (by decide) rfl (Nat.le_of_ble_eq_true rfl) (Nat.le_of_ble_eq_true rfl) (Nat.le_of_ble_eq_true rfl) ?_
  refine g_putRq (o := 1) dX1_init_24 lkX1_22 (rfl : jlay 4 = (5, 1)) (Nat.le_of_ble_eq_true rfl) rfl (by decide) rfl (fun _ => ⟨rfl, rfl⟩) rfl (fun _ _ _ h => by cases h; exact ⟨rfl, rfl⟩) ?_
  exact g_vret dX1_init_27 rfl rfl rfl rfl rfl
theorem kX1_6 (m : jM) : gX mX1_init [.ref 6] m 65 66 1 40 (fun m1 => m1 = gm m (kX1 6)) := by
  refine gX_of (L := [some (.ref 6)]) 0 rfl rfl (by decide +kernel) rfl ?_
  show gE _ _ 0 _ _ (gm m []) _ _ _
  refine g_aload_n dX1_init_0 rfl ?_
  refine g_objInit dX1_init_1 (List.mem_of_getElem? (i := 71) (by decide +kernel)) (Nat.le_of_ble_eq_true rfl) (Nat.le_of_ble_eq_true rfl) ?_
  refine g_aload_n dX1_init_4 rfl ?_
  refine g_iconst (v := 0) dX1_init_5 rfl ?_
  refine g_putIq dX1_init_6 lkX1_9 (rfl : jlay 6 = (5, 1)) (Nat.le_of_ble_eq_true rfl) rfl ⟨rfl, rfl⟩ fwX1_0 ?_
  refine g_aload_n dX1_init_9 rfl ?_
  refine g_iconst (v := 0) dX1_init_10 rfl ?_
  refine g_putIq dX1_init_11 lkX1_15 (rfl : jlay 6 = (5, 1)) (Nat.le_of_ble_eq_true rfl) rfl ⟨rfl, rfl⟩ fwX1_1 ?_
  refine g_aload_n dX1_init_14 rfl ?_
  refine g_iconst (v := 0) dX1_init_15 rfl ?_
  refine g_putIq dX1_init_16 lkX1_19 (rfl : jlay 6 = (5, 1)) (Nat.le_of_ble_eq_true rfl) rfl ⟨rfl, rfl⟩ fwX1_2 ?_
  refine g_aload_n dX1_init_19 rfl ?_
  refine g_bipush (v := 40) dX1_init_20 rfl ?_
  refine g_newI (c1 := 7) (N := 40) dX1_init_22 rfl (by decide) (by decide) rfl (Nat.le_of_ble_eq_true rfl) (Nat.le_of_ble_eq_true rfl) (Nat.le_of_ble_eq_true rfl) ?_
  refine g_putRq (o := 1) dX1_init_24 lkX1_22 (rfl : jlay 6 = (5, 1)) (Nat.le_of_ble_eq_true rfl) rfl (by decide) rfl (fun _ => ⟨rfl, rfl⟩) rfl (fun _ _ _ h => by cases h; exact ⟨rfl, rfl⟩) ?_
  exact g_vret dX1_init_27 rfl rfl rfl rfl rfl
theorem kX1_8 (m : jM) : gX mX1_init [.ref 8] m 67 68 1 40 (fun m1 => m1 = gm m (kX1 8)) := by
  refine gX_of (L := [some (.ref 8)]) 0 rfl rfl (by decide +kernel) rfl ?_
  show gE _ _ 0 _ _ (gm m []) _ _ _
  refine g_aload_n dX1_init_0 rfl ?_
  refine g_objInit dX1_init_1 (List.mem_of_getElem? (i := 71) (by decide +kernel)) (Nat.le_of_ble_eq_true rfl) (Nat.le_of_ble_eq_true rfl) ?_
  refine g_aload_n dX1_init_4 rfl ?_
  refine g_iconst (v := 0) dX1_init_5 rfl ?_
  refine g_putIq dX1_init_6 lkX1_9 (rfl : jlay 8 = (5, 1)) (Nat.le_of_ble_eq_true rfl) rfl ⟨rfl, rfl⟩ fwX1_0 ?_
  refine g_aload_n dX1_init_9 rfl ?_
  refine g_iconst (v := 0) dX1_init_10 rfl ?_
  refine g_putIq dX1_init_11 lkX1_15 (rfl : jlay 8 = (5, 1)) (Nat.le_of_ble_eq_true rfl) rfl ⟨rfl, rfl⟩ fwX1_1 ?_
  refine g_aload_n dX1_init_14 rfl ?_
  refine g_iconst (v := 0) dX1_init_15 rfl ?_
  refine g_putIq dX1_init_16 lkX1_19 (rfl : jlay 8 = (5, 1)) (Nat.le_of_ble_eq_true rfl) rfl ⟨rfl, rfl⟩ fwX1_2 ?_
  refine g_aload_n dX1_init_19 rfl ?_
  refine g_bipush (v := 40) dX1_init_20 rfl ?_
  refine g_newI (c1 := 9) (N := 40) dX1_init_22 rfl (by decide) (by decide) rfl (Nat.le_of_ble_eq_true rfl) (Nat.le_of_ble_eq_true rfl) (Nat.le_of_ble_eq_true rfl) ?_
  refine g_putRq (o := 1) dX1_init_24 lkX1_22 (rfl : jlay 8 = (5, 1)) (Nat.le_of_ble_eq_true rfl) rfl (by decide) rfl (fun _ => ⟨rfl, rfl⟩) rfl (fun _ _ _ h => by cases h; exact ⟨rfl, rfl⟩) ?_
  exact g_vret dX1_init_27 rfl rfl rfl rfl rfl
theorem kX1_10 (m : jM) : gX mX1_init [.ref 10] m 69 70 1 40 (fun m1 => m1 = gm m (kX1 10)) := by
  refine gX_of (L := [some (.ref 10)]) 0 rfl rfl (by decide +kernel) rfl ?_
  show gE _ _ 0 _ _ (gm m []) _ _ _
  refine g_aload_n dX1_init_0 rfl ?_
  refine g_objInit dX1_init_1 (List.mem_of_getElem? (i := 71) (by decide +kernel)) (Nat.le_of_ble_eq_true rfl) (Nat.le_of_ble_eq_true rfl) ?_
  refine g_aload_n dX1_init_4 rfl ?_
  refine g_iconst (v := 0) dX1_init_5 rfl ?_
  refine g_putIq dX1_init_6 lkX1_9 (rfl : jlay 10 = (5, 1)) (Nat.le_of_ble_eq_true rfl) rfl ⟨rfl, rfl⟩ fwX1_0 ?_
  refine g_aload_n dX1_init_9 rfl ?_
  refine g_iconst (v := 0) dX1_init_10 rfl ?_
  refine g_putIq dX1_init_11 lkX1_15 (rfl : jlay 10 = (5, 1)) (Nat.le_of_ble_eq_true rfl) rfl ⟨rfl, rfl⟩ fwX1_1 ?_
  refine g_aload_n dX1_init_14 rfl ?_
  refine g_iconst (v := 0) dX1_init_15 rfl ?_
  refine g_putIq dX1_init_16 lkX1_19 (rfl : jlay 10 = (5, 1)) (Nat.le_of_ble_eq_true rfl) rfl ⟨rfl, rfl⟩ fwX1_2 ?_
  refine g_aload_n dX1_init_19 rfl ?_
  refine g_bipush (v := 40) dX1_init_20 rfl ?_
  refine g_newI (c1 := 11) (N := 40) dX1_init_22 rfl (by decide) (by decide) rfl (Nat.le_of_ble_eq_true rfl) (Nat.le_of_ble_eq_true rfl) (Nat.le_of_ble_eq_true rfl) ?_
  refine g_putRq (o := 1) dX1_init_24 lkX1_22 (rfl : jlay 10 = (5, 1)) (Nat.le_of_ble_eq_true rfl) rfl (by decide) rfl (fun _ => ⟨rfl, rfl⟩) rfl (fun _ _ _ h => by cases h; exact ⟨rfl, rfl⟩) ?_
  exact g_vret dX1_init_27 rfl rfl rfl rfl rfl
theorem kX1_12 (m : jM) : gX mX1_init [.ref 12] m 71 72 1 40 (fun m1 => m1 = gm m (kX1 12)) := by
  refine gX_of (L := [some (.ref 12)]) 0 rfl rfl (by decide +kernel) rfl ?_
  show gE _ _ 0 _ _ (gm m []) _ _ _
  refine g_aload_n dX1_init_0 rfl ?_
  refine g_objInit dX1_init_1 (List.mem_of_getElem? (i := 71) (by decide +kernel)) (Nat.le_of_ble_eq_true rfl) (Nat.le_of_ble_eq_true rfl) ?_
  refine g_aload_n dX1_init_4 rfl ?_
  refine g_iconst (v := 0) dX1_init_5 rfl ?_
  refine g_putIq dX1_init_6 lkX1_9 (rfl : jlay 12 = (5, 1)) (Nat.le_of_ble_eq_true rfl) rfl ⟨rfl, rfl⟩ fwX1_0 ?_
  refine g_aload_n dX1_init_9 rfl ?_
  refine g_iconst (v := 0) dX1_init_10 rfl ?_
  refine g_putIq dX1_init_11 lkX1_15 (rfl : jlay 12 = (5, 1)) (Nat.le_of_ble_eq_true rfl) rfl ⟨rfl, rfl⟩ fwX1_1 ?_
  refine g_aload_n dX1_init_14 rfl ?_
  refine g_iconst (v := 0) dX1_init_15 rfl ?_
  refine g_putIq dX1_init_16 lkX1_19 (rfl : jlay 12 = (5, 1)) (Nat.le_of_ble_eq_true rfl) rfl ⟨rfl, rfl⟩ fwX1_2 ?_
  refine g_aload_n dX1_init_19 rfl ?_
  refine g_bipush (v := 40) dX1_init_20 rfl ?_
  refine g_newI (c1 := 13) (N := 40) dX1_init_22 rfl (by decide) (by decide) rfl (Nat.le_of_ble_eq_true rfl) (Nat.le_of_ble_eq_true rfl) (Nat.le_of_ble_eq_true rfl) ?_
  refine g_putRq (o := 1) dX1_init_24 lkX1_22 (rfl : jlay 12 = (5, 1)) (Nat.le_of_ble_eq_true rfl) rfl (by decide) rfl (fun _ => ⟨rfl, rfl⟩) rfl (fun _ _ _ h => by cases h; exact ⟨rfl, rfl⟩) ?_
  exact g_vret dX1_init_27 rfl rfl rfl rfl rfl
theorem kX1_14 (m : jM) : gX mX1_init [.ref 14] m 73 74 1 40 (fun m1 => m1 = gm m (kX1 14)) := by
  refine gX_of (L := [some (.ref 14)]) 0 rfl rfl (by decide +kernel) rfl ?_
  show gE _ _ 0 _ _ (gm m []) _ _ _
  refine g_aload_n dX1_init_0 rfl ?_
  refine g_objInit dX1_init_1 (List.mem_of_getElem? (i := 71) (by decide +kernel)) (Nat.le_of_ble_eq_true rfl) (Nat.le_of_ble_eq_true rfl) ?_
  refine g_aload_n dX1_init_4 rfl ?_
  refine g_iconst (v := 0) dX1_init_5 rfl ?_
  refine g_putIq dX1_init_6 lkX1_9 (rfl : jlay 14 = (5, 1)) (Nat.le_of_ble_eq_true rfl) rfl ⟨rfl, rfl⟩ fwX1_0 ?_
  refine g_aload_n dX1_init_9 rfl ?_
  refine g_iconst (v := 0) dX1_init_10 rfl ?_
  refine g_putIq dX1_init_11 lkX1_15 (rfl : jlay 14 = (5, 1)) (Nat.le_of_ble_eq_true rfl) rfl ⟨rfl, rfl⟩ fwX1_1 ?_
  refine g_aload_n dX1_init_14 rfl ?_
  refine g_iconst (v := 0) dX1_init_15 rfl ?_
  refine g_putIq dX1_init_16 lkX1_19 (rfl : jlay 14 = (5, 1)) (Nat.le_of_ble_eq_true rfl) rfl ⟨rfl, rfl⟩ fwX1_2 ?_
  refine g_aload_n dX1_init_19 rfl ?_
  refine g_bipush (v := 40) dX1_init_20 rfl ?_
  refine g_newI (c1 := 15) (N := 40) dX1_init_22 rfl (by decide) (by decide) rfl (Nat.le_of_ble_eq_true rfl) (Nat.le_of_ble_eq_true rfl) (Nat.le_of_ble_eq_true rfl) ?_
  refine g_putRq (o := 1) dX1_init_24 lkX1_22 (rfl : jlay 14 = (5, 1)) (Nat.le_of_ble_eq_true rfl) rfl (by decide) rfl (fun _ => ⟨rfl, rfl⟩) rfl (fun _ _ _ h => by cases h; exact ⟨rfl, rfl⟩) ?_
  exact g_vret dX1_init_27 rfl rfl rfl rfl rfl
theorem kX1_16 (m : jM) : gX mX1_init [.ref 16] m 75 76 1 40 (fun m1 => m1 = gm m (kX1 16)) := by
  refine gX_of (L := [some (.ref 16)]) 0 rfl rfl (by decide +kernel) rfl ?_
  show gE _ _ 0 _ _ (gm m []) _ _ _
  refine g_aload_n dX1_init_0 rfl ?_
  refine g_objInit dX1_init_1 (List.mem_of_getElem? (i := 71) (by decide +kernel)) (Nat.le_of_ble_eq_true rfl) (Nat.le_of_ble_eq_true rfl) ?_
  refine g_aload_n dX1_init_4 rfl ?_
  refine g_iconst (v := 0) dX1_init_5 rfl ?_
  refine g_putIq dX1_init_6 lkX1_9 (rfl : jlay 16 = (5, 1)) (Nat.le_of_ble_eq_true rfl) rfl ⟨rfl, rfl⟩ fwX1_0 ?_
  refine g_aload_n dX1_init_9 rfl ?_
  refine g_iconst (v := 0) dX1_init_10 rfl ?_
  refine g_putIq dX1_init_11 lkX1_15 (rfl : jlay 16 = (5, 1)) (Nat.le_of_ble_eq_true rfl) rfl ⟨rfl, rfl⟩ fwX1_1 ?_
  refine g_aload_n dX1_init_14 rfl ?_
  refine g_iconst (v := 0) dX1_init_15 rfl ?_
  refine g_putIq dX1_init_16 lkX1_19 (rfl : jlay 16 = (5, 1)) (Nat.le_of_ble_eq_true rfl) rfl ⟨rfl, rfl⟩ fwX1_2 ?_
  refine g_aload_n dX1_init_19 rfl ?_
  refine g_bipush (v := 40) dX1_init_20 rfl ?_
  refine g_newI (c1 := 17) (N := 40) dX1_init_22 rfl (by decide) (by decide) rfl (Nat.le_of_ble_eq_true rfl) (Nat.le_of_ble_eq_true rfl) (Nat.le_of_ble_eq_true rfl) ?_
  refine g_putRq (o := 1) dX1_init_24 lkX1_22 (rfl : jlay 16 = (5, 1)) (Nat.le_of_ble_eq_true rfl) rfl (by decide) rfl (fun _ => ⟨rfl, rfl⟩) rfl (fun _ _ _ h => by cases h; exact ⟨rfl, rfl⟩) ?_
  exact g_vret dX1_init_27 rfl rfl rfl rfl rfl
theorem kX2_18 (m : jM) : gX mX2_init [.ref 18] m 3 4 1 120 (fun m1 => m1 = gm m (kX2 18)) := by
  refine gX_of (L := [some (.ref 18)]) 0 rfl rfl (by decide +kernel) rfl ?_
  show gE _ _ 0 _ _ (gm m []) _ _ _
  refine g_aload_n dX2_init_0 rfl ?_
  refine g_objInit dX2_init_1 (List.mem_of_getElem? (i := 43) (by decide +kernel)) (Nat.le_of_ble_eq_true rfl) (Nat.le_of_ble_eq_true rfl) ?_
  refine g_aload_n dX2_init_4 rfl ?_
  refine g_bipush (v := 120) dX2_init_5 rfl ?_
  refine g_newI (c1 := 19) (N := 120) dX2_init_7 rfl (by decide) (by decide) rfl (Nat.le_of_ble_eq_true rfl) (Nat.le_of_ble_eq_true rfl) (Nat.le_of_ble_eq_true rfl) ?_
  refine g_putRq (o := 1) dX2_init_9 lkX2_9 (rfl : jlay 18 = (5, 2)) (Nat.le_of_ble_eq_true rfl) rfl (by decide) rfl (fun _ => ⟨rfl, rfl⟩) rfl (fun _ _ _ h => by cases h; exact ⟨rfl, rfl⟩) ?_
  refine g_aload_n dX2_init_12 rfl ?_
  refine g_iconst (v := 0) dX2_init_13 rfl ?_
  refine g_putIq dX2_init_14 lkX2_15 (rfl : jlay 18 = (5, 2)) (Nat.le_of_ble_eq_true rfl) rfl ⟨rfl, rfl⟩ fwX2_1 ?_
  refine g_aload_n dX2_init_17 rfl ?_
  refine g_iconst (v := 0) dX2_init_18 rfl ?_
  refine g_putIq dX2_init_19 lkX2_19 (rfl : jlay 18 = (5, 2)) (Nat.le_of_ble_eq_true rfl) rfl ⟨rfl, rfl⟩ fwX2_2 ?_
  refine g_aload_n dX2_init_22 rfl ?_
  refine g_iconst (v := 0) dX2_init_23 rfl ?_
  refine g_putIq dX2_init_24 lkX2_22 (rfl : jlay 18 = (5, 2)) (Nat.le_of_ble_eq_true rfl) rfl ⟨rfl, rfl⟩ fwX2_3 ?_
  refine g_aload_n dX2_init_27 rfl ?_
  refine g_iconst (v := -1) dX2_init_28 rfl ?_
  refine g_putIq dX2_init_29 lkX2_25 (rfl : jlay 18 = (5, 2)) (Nat.le_of_ble_eq_true rfl) rfl ⟨rfl, rfl⟩ fwX2_4 ?_
  refine g_aload_n dX2_init_32 rfl ?_
  refine g_iconst (v := 0) dX2_init_33 rfl ?_
  refine g_putIq dX2_init_34 lkX2_28 (rfl : jlay 18 = (5, 2)) (Nat.le_of_ble_eq_true rfl) rfl ⟨rfl, rfl⟩ fwX2_5 ?_
  refine g_aload_n dX2_init_37 rfl ?_
  refine g_iconst (v := 0) dX2_init_38 rfl ?_
  refine g_putIq dX2_init_39 lkX2_31 (rfl : jlay 18 = (5, 2)) (Nat.le_of_ble_eq_true rfl) rfl ⟨rfl, rfl⟩ fwX2_6 ?_
  exact g_vret dX2_init_42 rfl rfl rfl rfl rfl
theorem kX0_20 (m : jM) : gX mX0_init [.ref 20] m 5 15 10 42 (fun m1 => m1 = gm m (kX0 20)) := by
  refine gX_of (L := [some (.ref 20)]) 0 rfl rfl (by decide +kernel) rfl ?_
  show gE _ _ 0 _ _ (gm m []) _ _ _
  refine g_aload_n dX0_init_0 rfl ?_
  refine g_objInit dX0_init_1 (List.mem_of_getElem? (i := 53) (by decide +kernel)) (Nat.le_of_ble_eq_true rfl) (Nat.le_of_ble_eq_true rfl) ?_
  refine g_aload_n dX0_init_4 rfl ?_
  refine g_iconst (v := 0) dX0_init_5 rfl ?_
  refine g_putIq dX0_init_6 lkX0_9 (rfl : jlay 20 = (5, 0)) (Nat.le_of_ble_eq_true rfl) rfl ⟨rfl, rfl⟩ fwX0_0 ?_
  refine g_aload_n dX0_init_9 rfl ?_
  refine g_iconst (v := 0) dX0_init_10 rfl ?_
  refine g_putIq dX0_init_11 lkX0_15 (rfl : jlay 20 = (5, 0)) (Nat.le_of_ble_eq_true rfl) rfl ⟨rfl, rfl⟩ fwX0_1 ?_
  refine g_aload_n dX0_init_14 rfl ?_
  refine g_iconst (v := 0) dX0_init_15 rfl ?_
  refine g_putIq dX0_init_16 lkX0_19 (rfl : jlay 20 = (5, 0)) (Nat.le_of_ble_eq_true rfl) rfl ⟨rfl, rfl⟩ fwX0_2 ?_
  refine g_aload_n dX0_init_19 rfl ?_
  refine g_iconst (v := 3) dX0_init_20 rfl ?_
  refine g_newI (c1 := 21) (N := 3) dX0_init_21 rfl (by decide) (by decide) rfl (Nat.le_of_ble_eq_true rfl) (Nat.le_of_ble_eq_true rfl) (Nat.le_of_ble_eq_true rfl) ?_
  refine g_putRq (o := 1) dX0_init_23 lkX0_22 (rfl : jlay 20 = (5, 0)) (Nat.le_of_ble_eq_true rfl) rfl (by decide) rfl (fun _ => ⟨rfl, rfl⟩) rfl (fun _ _ _ h => by cases h; exact ⟨rfl, rfl⟩) ?_
  refine g_aload_n dX0_init_26 rfl ?_
  refine g_iconst (v := 3) dX0_init_27 rfl ?_
  refine g_newI (c1 := 22) (N := 3) dX0_init_28 rfl (by decide) (by decide) rfl (Nat.le_of_ble_eq_true rfl) (Nat.le_of_ble_eq_true rfl) (Nat.le_of_ble_eq_true rfl) ?_
  refine g_putRq (o := 2) dX0_init_30 lkX0_26 (rfl : jlay 20 = (5, 0)) (Nat.le_of_ble_eq_true rfl) rfl (by decide) rfl (fun _ => ⟨rfl, rfl⟩) rfl (fun _ _ _ h => by cases h; exact ⟨rfl, rfl⟩) ?_
  refine g_aload_n dX0_init_33 rfl ?_
  refine g_iconst (v := 3) dX0_init_34 rfl ?_
  refine g_newI (c1 := 23) (N := 3) dX0_init_35 rfl (by decide) (by decide) rfl (Nat.le_of_ble_eq_true rfl) (Nat.le_of_ble_eq_true rfl) (Nat.le_of_ble_eq_true rfl) ?_
  refine g_putRq (o := 3) dX0_init_37 lkX0_29 (rfl : jlay 20 = (5, 0)) (Nat.le_of_ble_eq_true rfl) rfl (by decide) rfl (fun _ => ⟨rfl, rfl⟩) rfl (fun _ _ _ h => by cases h; exact ⟨rfl, rfl⟩) ?_
  refine g_aload_n dX0_init_40 rfl ?_
  refine g_iconst (v := 0) dX0_init_41 rfl ?_
  refine g_putIq dX0_init_42 lkX0_32 (rfl : jlay 20 = (5, 0)) (Nat.le_of_ble_eq_true rfl) rfl ⟨rfl, rfl⟩ fwX0_6 ?_
  refine g_aload_n dX0_init_45 rfl ?_
  refine g_iconst (v := 5) dX0_init_46 rfl ?_
  refine g_newI (c1 := 24) (N := 5) dX0_init_47 rfl (by decide) (by decide) rfl (Nat.le_of_ble_eq_true rfl) (Nat.le_of_ble_eq_true rfl) (Nat.le_of_ble_eq_true rfl) ?_
  refine g_putRq (o := 4) dX0_init_49 lkX0_35 (rfl : jlay 20 = (5, 0)) (Nat.le_of_ble_eq_true rfl) rfl (by decide) rfl (fun _ => ⟨rfl, rfl⟩) rfl (fun _ _ _ h => by cases h; exact ⟨rfl, rfl⟩) ?_
  refine g_aload_n dX0_init_52 rfl ?_
  refine g_iconst (v := 5) dX0_init_53 rfl ?_
  refine g_newI (c1 := 25) (N := 5) dX0_init_54 rfl (by decide) (by decide) rfl (Nat.le_of_ble_eq_true rfl) (Nat.le_of_ble_eq_true rfl) (Nat.le_of_ble_eq_true rfl) ?_
  refine g_putRq (o := 5) dX0_init_56 lkX0_38 (rfl : jlay 20 = (5, 0)) (Nat.le_of_ble_eq_true rfl) rfl (by decide) rfl (fun _ => ⟨rfl, rfl⟩) rfl (fun _ _ _ h => by cases h; exact ⟨rfl, rfl⟩) ?_
  refine g_aload_n dX0_init_59 rfl ?_
  refine g_iconst (v := 5) dX0_init_60 rfl ?_
  refine g_newI (c1 := 26) (N := 5) dX0_init_61 rfl (by decide) (by decide) rfl (Nat.le_of_ble_eq_true rfl) (Nat.le_of_ble_eq_true rfl) (Nat.le_of_ble_eq_true rfl) ?_
  refine g_putRq (o := 6) dX0_init_63 lkX0_41 (rfl : jlay 20 = (5, 0)) (Nat.le_of_ble_eq_true rfl) rfl (by decide) rfl (fun _ => ⟨rfl, rfl⟩) rfl (fun _ _ _ h => by cases h; exact ⟨rfl, rfl⟩) ?_
  refine g_aload_n dX0_init_66 rfl ?_
  refine g_iconst (v := 0) dX0_init_67 rfl ?_
  refine g_putIq dX0_init_68 lkX0_44 (rfl : jlay 20 = (5, 0)) (Nat.le_of_ble_eq_true rfl) rfl ⟨rfl, rfl⟩ fwX0_10 ?_
  refine g_aload_n dX0_init_71 rfl ?_
  refine g_iconst (v := 3) dX0_init_72 rfl ?_
  refine g_newI (c1 := 27) (N := 3) dX0_init_73 rfl (by decide) (by decide) rfl (Nat.le_of_ble_eq_true rfl) (Nat.le_of_ble_eq_true rfl) (Nat.le_of_ble_eq_true rfl) ?_
  refine g_putRq (o := 7) dX0_init_75 lkX0_47 (rfl : jlay 20 = (5, 0)) (Nat.le_of_ble_eq_true rfl) rfl (by decide) rfl (fun _ => ⟨rfl, rfl⟩) rfl (fun _ _ _ h => by cases h; exact ⟨rfl, rfl⟩) ?_
  refine g_aload_n dX0_init_78 rfl ?_
  refine g_iconst (v := 5) dX0_init_79 rfl ?_
  refine g_newI (c1 := 28) (N := 5) dX0_init_80 rfl (by decide) (by decide) rfl (Nat.le_of_ble_eq_true rfl) (Nat.le_of_ble_eq_true rfl) (Nat.le_of_ble_eq_true rfl) ?_
  refine g_putRq (o := 8) dX0_init_82 lkX0_50 (rfl : jlay 20 = (5, 0)) (Nat.le_of_ble_eq_true rfl) rfl (by decide) rfl (fun _ => ⟨rfl, rfl⟩) rfl (fun _ _ _ h => by cases h; exact ⟨rfl, rfl⟩) ?_
  refine g_aload_n dX0_init_85 rfl ?_
  refine g_iconst (v := 5) dX0_init_86 rfl ?_
  refine g_newI (c1 := 29) (N := 5) dX0_init_87 rfl (by decide) (by decide) rfl (Nat.le_of_ble_eq_true rfl) (Nat.le_of_ble_eq_true rfl) (Nat.le_of_ble_eq_true rfl) ?_
  refine g_putRq (o := 9) dX0_init_89 lkX0_53 (rfl : jlay 20 = (5, 0)) (Nat.le_of_ble_eq_true rfl) rfl (by decide) rfl (fun _ => ⟨rfl, rfl⟩) rfl (fun _ _ _ h => by cases h; exact ⟨rfl, rfl⟩) ?_
  refine g_aload_n dX0_init_92 rfl ?_
  refine g_iconst (v := 5) dX0_init_93 rfl ?_
  refine g_newI (c1 := 30) (N := 5) dX0_init_94 rfl (by decide) (by decide) rfl (Nat.le_of_ble_eq_true rfl) (Nat.le_of_ble_eq_true rfl) (Nat.le_of_ble_eq_true rfl) ?_
  refine g_putRq (o := 10) dX0_init_96 lkX0_56 (rfl : jlay 20 = (5, 0)) (Nat.le_of_ble_eq_true rfl) rfl (by decide) rfl (fun _ => ⟨rfl, rfl⟩) rfl (fun _ _ _ h => by cases h; exact ⟨rfl, rfl⟩) ?_
  exact g_vret dX0_init_99 rfl rfl rfl rfl rfl
theorem kX0_31 (m : jM) : gX mX0_init [.ref 31] m 16 26 10 42 (fun m1 => m1 = gm m (kX0 31)) := by
  refine gX_of (L := [some (.ref 31)]) 0 rfl rfl (by decide +kernel) rfl ?_
  show gE _ _ 0 _ _ (gm m []) _ _ _
  refine g_aload_n dX0_init_0 rfl ?_
  refine g_objInit dX0_init_1 (List.mem_of_getElem? (i := 53) (by decide +kernel)) (Nat.le_of_ble_eq_true rfl) (Nat.le_of_ble_eq_true rfl) ?_
  refine g_aload_n dX0_init_4 rfl ?_
  refine g_iconst (v := 0) dX0_init_5 rfl ?_
  refine g_putIq dX0_init_6 lkX0_9 (rfl : jlay 31 = (5, 0)) (Nat.le_of_ble_eq_true rfl) rfl ⟨rfl, rfl⟩ fwX0_0 ?_
  refine g_aload_n dX0_init_9 rfl ?_
  refine g_iconst (v := 0) dX0_init_10 rfl ?_
  refine g_putIq dX0_init_11 lkX0_15 (rfl : jlay 31 = (5, 0)) (Nat.le_of_ble_eq_true rfl) rfl ⟨rfl, rfl⟩ fwX0_1 ?_
  refine g_aload_n dX0_init_14 rfl ?_
  refine g_iconst (v := 0) dX0_init_15 rfl ?_
  refine g_putIq dX0_init_16 lkX0_19 (rfl : jlay 31 = (5, 0)) (Nat.le_of_ble_eq_true rfl) rfl ⟨rfl, rfl⟩ fwX0_2 ?_
  refine g_aload_n dX0_init_19 rfl ?_
  refine g_iconst (v := 3) dX0_init_20 rfl ?_
  refine g_newI (c1 := 32) (N := 3) dX0_init_21 rfl (by decide) (by decide) rfl (Nat.le_of_ble_eq_true rfl) (Nat.le_of_ble_eq_true rfl) (Nat.le_of_ble_eq_true rfl) ?_
  refine g_putRq (o := 1) dX0_init_23 lkX0_22 (rfl : jlay 31 = (5, 0)) (Nat.le_of_ble_eq_true rfl) rfl (by decide) rfl (fun _ => ⟨rfl, rfl⟩) rfl (fun _ _ _ h => by cases h; exact ⟨rfl, rfl⟩) ?_
  refine g_aload_n dX0_init_26 rfl ?_
  refine g_iconst (v := 3) dX0_init_27 rfl ?_
  refine g_newI (c1 := 33) (N := 3) dX0_init_28 rfl (by decide) (by decide) rfl (Nat.le_of_ble_eq_true rfl) (Nat.le_of_ble_eq_true rfl) (Nat.le_of_ble_eq_true rfl) ?_
  refine g_putRq (o := 2) dX0_init_30 lkX0_26 (rfl : jlay 31 = (5, 0)) (Nat.le_of_ble_eq_true rfl) rfl (by decide) rfl (fun _ => ⟨rfl, rfl⟩) rfl (fun _ _ _ h => by cases h; exact ⟨rfl, rfl⟩) ?_
  refine g_aload_n dX0_init_33 rfl ?_
  refine g_iconst (v := 3) dX0_init_34 rfl ?_
  refine g_newI (c1 := 34) (N := 3) dX0_init_35 rfl (by decide) (by decide) rfl (Nat.le_of_ble_eq_true rfl) (Nat.le_of_ble_eq_true rfl) (Nat.le_of_ble_eq_true rfl) ?_
  refine g_putRq (o := 3) dX0_init_37 lkX0_29 (rfl : jlay 31 = (5, 0)) (Nat.le_of_ble_eq_true rfl) rfl (by decide) rfl (fun _ => ⟨rfl, rfl⟩) rfl (fun _ _ _ h => by cases h; exact ⟨rfl, rfl⟩) ?_
  refine g_aload_n dX0_init_40 rfl ?_
  refine g_iconst (v := 0) dX0_init_41 rfl ?_
  refine g_putIq dX0_init_42 lkX0_32 (rfl : jlay 31 = (5, 0)) (Nat.le_of_ble_eq_true rfl) rfl ⟨rfl, rfl⟩ fwX0_6 ?_
  refine g_aload_n dX0_init_45 rfl ?_
  refine g_iconst (v := 5) dX0_init_46 rfl ?_
  refine g_newI (c1 := 35) (N := 5) dX0_init_47 rfl (by decide) (by decide) rfl (Nat.le_of_ble_eq_true rfl) (Nat.le_of_ble_eq_true rfl) (Nat.le_of_ble_eq_true rfl) ?_
  refine g_putRq (o := 4) dX0_init_49 lkX0_35 (rfl : jlay 31 = (5, 0)) (Nat.le_of_ble_eq_true rfl) rfl (by decide) rfl (fun _ => ⟨rfl, rfl⟩) rfl (fun _ _ _ h => by cases h; exact ⟨rfl, rfl⟩) ?_
  refine g_aload_n dX0_init_52 rfl ?_
  refine g_iconst (v := 5) dX0_init_53 rfl ?_
  refine g_newI (c1 := 36) (N := 5) dX0_init_54 rfl (by decide) (by decide) rfl (Nat.le_of_ble_eq_true rfl) (Nat.le_of_ble_eq_true rfl) (Nat.le_of_ble_eq_true rfl) ?_
  refine g_putRq (o := 5) dX0_init_56 lkX0_38 (rfl : jlay 31 = (5, 0)) (Nat.le_of_ble_eq_true rfl) rfl (by decide) rfl (fun _ => ⟨rfl, rfl⟩) rfl (fun _ _ _ h => by cases h; exact ⟨rfl, rfl⟩) ?_
  refine g_aload_n dX0_init_59 rfl ?_
  refine g_iconst (v := 5) dX0_init_60 rfl ?_
  refine g_newI (c1 := 37) (N := 5) dX0_init_61 rfl (by decide) (by decide) rfl (Nat.le_of_ble_eq_true rfl) (Nat.le_of_ble_eq_true rfl) (Nat.le_of_ble_eq_true rfl) ?_
  refine g_putRq (o := 6) dX0_init_63 lkX0_41 (rfl : jlay 31 = (5, 0)) (Nat.le_of_ble_eq_true rfl) rfl (by decide) rfl (fun _ => ⟨rfl, rfl⟩) rfl (fun _ _ _ h => by cases h; exact ⟨rfl, rfl⟩) ?_
  refine g_aload_n dX0_init_66 rfl ?_
  refine g_iconst (v := 0) dX0_init_67 rfl ?_
  refine g_putIq dX0_init_68 lkX0_44 (rfl : jlay 31 = (5, 0)) (Nat.le_of_ble_eq_true rfl) rfl ⟨rfl, rfl⟩ fwX0_10 ?_
  refine g_aload_n dX0_init_71 rfl ?_
  refine g_iconst (v := 3) dX0_init_72 rfl ?_
  refine g_newI (c1 := 38) (N := 3) dX0_init_73 rfl (by decide) (by decide) rfl (Nat.le_of_ble_eq_true rfl) (Nat.le_of_ble_eq_true rfl) (Nat.le_of_ble_eq_true rfl) ?_
  refine g_putRq (o := 7) dX0_init_75 lkX0_47 (rfl : jlay 31 = (5, 0)) (Nat.le_of_ble_eq_true rfl) rfl (by decide) rfl (fun _ => ⟨rfl, rfl⟩) rfl (fun _ _ _ h => by cases h; exact ⟨rfl, rfl⟩) ?_
  refine g_aload_n dX0_init_78 rfl ?_
  refine g_iconst (v := 5) dX0_init_79 rfl ?_
  refine g_newI (c1 := 39) (N := 5) dX0_init_80 rfl (by decide) (by decide) rfl (Nat.le_of_ble_eq_true rfl) (Nat.le_of_ble_eq_true rfl) (Nat.le_of_ble_eq_true rfl) ?_
  refine g_putRq (o := 8) dX0_init_82 lkX0_50 (rfl : jlay 31 = (5, 0)) (Nat.le_of_ble_eq_true rfl) rfl (by decide) rfl (fun _ => ⟨rfl, rfl⟩) rfl (fun _ _ _ h => by cases h; exact ⟨rfl, rfl⟩) ?_
  refine g_aload_n dX0_init_85 rfl ?_
  refine g_iconst (v := 5) dX0_init_86 rfl ?_
  refine g_newI (c1 := 40) (N := 5) dX0_init_87 rfl (by decide) (by decide) rfl (Nat.le_of_ble_eq_true rfl) (Nat.le_of_ble_eq_true rfl) (Nat.le_of_ble_eq_true rfl) ?_
  refine g_putRq (o := 9) dX0_init_89 lkX0_53 (rfl : jlay 31 = (5, 0)) (Nat.le_of_ble_eq_true rfl) rfl (by decide) rfl (fun _ => ⟨rfl, rfl⟩) rfl (fun _ _ _ h => by cases h; exact ⟨rfl, rfl⟩) ?_
  refine g_aload_n dX0_init_92 rfl ?_
  refine g_iconst (v := 5) dX0_init_93 rfl ?_
  refine g_newI (c1 := 41) (N := 5) dX0_init_94 rfl (by decide) (by decide) rfl (Nat.le_of_ble_eq_true rfl) (Nat.le_of_ble_eq_true rfl) (Nat.le_of_ble_eq_true rfl) ?_
  refine g_putRq (o := 10) dX0_init_96 lkX0_56 (rfl : jlay 31 = (5, 0)) (Nat.le_of_ble_eq_true rfl) rfl (by decide) rfl (fun _ => ⟨rfl, rfl⟩) rfl (fun _ _ _ h => by cases h; exact ⟨rfl, rfl⟩) ?_
  exact g_vret dX0_init_99 rfl rfl rfl rfl rfl
theorem kX0_43 (m : jM) : gX mX0_init [.ref 43] m 77 87 10 42 (fun m1 => m1 = gm m (kX0 43)) := by
  refine gX_of (L := [some (.ref 43)]) 0 rfl rfl (by decide +kernel) rfl ?_
  show gE _ _ 0 _ _ (gm m []) _ _ _
  refine g_aload_n dX0_init_0 rfl ?_
  refine g_objInit dX0_init_1 (List.mem_of_getElem? (i := 53) (by decide +kernel)) (Nat.le_of_ble_eq_true rfl) (Nat.le_of_ble_eq_true rfl) ?_
  refine g_aload_n dX0_init_4 rfl ?_
  refine g_iconst (v := 0) dX0_init_5 rfl ?_
  refine g_putIq dX0_init_6 lkX0_9 (rfl : jlay 43 = (5, 0)) (Nat.le_of_ble_eq_true rfl) rfl ⟨rfl, rfl⟩ fwX0_0 ?_
  refine g_aload_n dX0_init_9 rfl ?_
  refine g_iconst (v := 0) dX0_init_10 rfl ?_
  refine g_putIq dX0_init_11 lkX0_15 (rfl : jlay 43 = (5, 0)) (Nat.le_of_ble_eq_true rfl) rfl ⟨rfl, rfl⟩ fwX0_1 ?_
  refine g_aload_n dX0_init_14 rfl ?_
  refine g_iconst (v := 0) dX0_init_15 rfl ?_
  refine g_putIq dX0_init_16 lkX0_19 (rfl : jlay 43 = (5, 0)) (Nat.le_of_ble_eq_true rfl) rfl ⟨rfl, rfl⟩ fwX0_2 ?_
  refine g_aload_n dX0_init_19 rfl ?_
  refine g_iconst (v := 3) dX0_init_20 rfl ?_
  refine g_newI (c1 := 44) (N := 3) dX0_init_21 rfl (by decide) (by decide) rfl (Nat.le_of_ble_eq_true rfl) (Nat.le_of_ble_eq_true rfl) (Nat.le_of_ble_eq_true rfl) ?_
  refine g_putRq (o := 1) dX0_init_23 lkX0_22 (rfl : jlay 43 = (5, 0)) (Nat.le_of_ble_eq_true rfl) rfl (by decide) rfl (fun _ => ⟨rfl, rfl⟩) rfl (fun _ _ _ h => by cases h; exact ⟨rfl, rfl⟩) ?_
  refine g_aload_n dX0_init_26 rfl ?_
  refine g_iconst (v := 3) dX0_init_27 rfl ?_
  refine g_newI (c1 := 45) (N := 3) dX0_init_28 rfl (by decide) (by decide) rfl (Nat.le_of_ble_eq_true rfl) (Nat.le_of_ble_eq_true rfl) (Nat.le_of_ble_eq_true rfl) ?_
  refine g_putRq (o := 2) dX0_init_30 lkX0_26 (rfl : jlay 43 = (5, 0)) (Nat.le_of_ble_eq_true rfl) rfl (by decide) rfl (fun _ => ⟨rfl, rfl⟩) rfl (fun _ _ _ h => by cases h; exact ⟨rfl, rfl⟩) ?_
  refine g_aload_n dX0_init_33 rfl ?_
  refine g_iconst (v := 3) dX0_init_34 rfl ?_
  refine g_newI (c1 := 46) (N := 3) dX0_init_35 rfl (by decide) (by decide) rfl (Nat.le_of_ble_eq_true rfl) (Nat.le_of_ble_eq_true rfl) (Nat.le_of_ble_eq_true rfl) ?_
  refine g_putRq (o := 3) dX0_init_37 lkX0_29 (rfl : jlay 43 = (5, 0)) (Nat.le_of_ble_eq_true rfl) rfl (by decide) rfl (fun _ => ⟨rfl, rfl⟩) rfl (fun _ _ _ h => by cases h; exact ⟨rfl, rfl⟩) ?_
  refine g_aload_n dX0_init_40 rfl ?_
  refine g_iconst (v := 0) dX0_init_41 rfl ?_
  refine g_putIq dX0_init_42 lkX0_32 (rfl : jlay 43 = (5, 0)) (Nat.le_of_ble_eq_true rfl) rfl ⟨rfl, rfl⟩ fwX0_6 ?_
  refine g_aload_n dX0_init_45 rfl ?_
  refine g_iconst (v := 5) dX0_init_46 rfl ?_
  refine g_newI (c1 := 47) (N := 5) dX0_init_47 rfl (by decide) (by decide) rfl (Nat.le_of_ble_eq_true rfl) (Nat.le_of_ble_eq_true rfl) (Nat.le_of_ble_eq_true rfl) ?_
  refine g_putRq (o := 4) dX0_init_49 lkX0_35 (rfl : jlay 43 = (5, 0)) (Nat.le_of_ble_eq_true rfl) rfl (by decide) rfl (fun _ => ⟨rfl, rfl⟩) rfl (fun _ _ _ h => by cases h; exact ⟨rfl, rfl⟩) ?_
  refine g_aload_n dX0_init_52 rfl ?_
  refine g_iconst (v := 5) dX0_init_53 rfl ?_
  refine g_newI (c1 := 48) (N := 5) dX0_init_54 rfl (by decide) (by decide) rfl (Nat.le_of_ble_eq_true rfl) (Nat.le_of_ble_eq_true rfl) (Nat.le_of_ble_eq_true rfl) ?_
  refine g_putRq (o := 5) dX0_init_56 lkX0_38 (rfl : jlay 43 = (5, 0)) (Nat.le_of_ble_eq_true rfl) rfl (by decide) rfl (fun _ => ⟨rfl, rfl⟩) rfl (fun _ _ _ h => by cases h; exact ⟨rfl, rfl⟩) ?_
  refine g_aload_n dX0_init_59 rfl ?_
  refine g_iconst (v := 5) dX0_init_60 rfl ?_
  refine g_newI (c1 := 49) (N := 5) dX0_init_61 rfl (by decide) (by decide) rfl (Nat.le_of_ble_eq_true rfl) (Nat.le_of_ble_eq_true rfl) (Nat.le_of_ble_eq_true rfl) ?_
  refine g_putRq (o := 6) dX0_init_63 lkX0_41 (rfl : jlay 43 = (5, 0)) (Nat.le_of_ble_eq_true rfl) rfl (by decide) rfl (fun _ => ⟨rfl, rfl⟩) rfl (fun _ _ _ h => by cases h; exact ⟨rfl, rfl⟩) ?_
  refine g_aload_n dX0_init_66 rfl ?_
  refine g_iconst (v := 0) dX0_init_67 rfl ?_
  refine g_putIq dX0_init_68 lkX0_44 (rfl : jlay 43 = (5, 0)) (Nat.le_of_ble_eq_true rfl) rfl ⟨rfl, rfl⟩ fwX0_10 ?_
  refine g_aload_n dX0_init_71 rfl ?_
  refine g_iconst (v := 3) dX0_init_72 rfl ?_
  refine g_newI (c1 := 50) (N := 3) dX0_init_73 rfl (by decide) (by decide) rfl (Nat.le_of_ble_eq_true rfl) (Nat.le_of_ble_eq_true rfl) (Nat.le_of_ble_eq_true rfl) ?_
  refine g_putRq (o := 7) dX0_init_75 lkX0_47 (rfl : jlay 43 = (5, 0)) (Nat.le_of_ble_eq_true rfl) rfl (by decide) rfl (fun _ => ⟨rfl, rfl⟩) rfl (fun _ _ _ h => by cases h; exact ⟨rfl, rfl⟩) ?_
  refine g_aload_n dX0_init_78 rfl ?_
  refine g_iconst (v := 5) dX0_init_79 rfl ?_
  refine g_newI (c1 := 51) (N := 5) dX0_init_80 rfl (by decide) (by decide) rfl (Nat.le_of_ble_eq_true rfl) (Nat.le_of_ble_eq_true rfl) (Nat.le_of_ble_eq_true rfl) ?_
  refine g_putRq (o := 8) dX0_init_82 lkX0_50 (rfl : jlay 43 = (5, 0)) (Nat.le_of_ble_eq_true rfl) rfl (by decide) rfl (fun _ => ⟨rfl, rfl⟩) rfl (fun _ _ _ h => by cases h; exact ⟨rfl, rfl⟩) ?_
  refine g_aload_n dX0_init_85 rfl ?_
  refine g_iconst (v := 5) dX0_init_86 rfl ?_
  refine g_newI (c1 := 52) (N := 5) dX0_init_87 rfl (by decide) (by decide) rfl (Nat.le_of_ble_eq_true rfl) (Nat.le_of_ble_eq_true rfl) (Nat.le_of_ble_eq_true rfl) ?_
  refine g_putRq (o := 9) dX0_init_89 lkX0_53 (rfl : jlay 43 = (5, 0)) (Nat.le_of_ble_eq_true rfl) rfl (by decide) rfl (fun _ => ⟨rfl, rfl⟩) rfl (fun _ _ _ h => by cases h; exact ⟨rfl, rfl⟩) ?_
  refine g_aload_n dX0_init_92 rfl ?_
  refine g_iconst (v := 5) dX0_init_93 rfl ?_
  refine g_newI (c1 := 53) (N := 5) dX0_init_94 rfl (by decide) (by decide) rfl (Nat.le_of_ble_eq_true rfl) (Nat.le_of_ble_eq_true rfl) (Nat.le_of_ble_eq_true rfl) ?_
  refine g_putRq (o := 10) dX0_init_96 lkX0_56 (rfl : jlay 43 = (5, 0)) (Nat.le_of_ble_eq_true rfl) rfl (by decide) rfl (fun _ => ⟨rfl, rfl⟩) rfl (fun _ _ _ h => by cases h; exact ⟨rfl, rfl⟩) ?_
  exact g_vret dX0_init_99 rfl rfl rfl rfl rfl
theorem kX0_54 (m : jM) : gX mX0_init [.ref 54] m 88 98 10 42 (fun m1 => m1 = gm m (kX0 54)) := by
  refine gX_of (L := [some (.ref 54)]) 0 rfl rfl (by decide +kernel) rfl ?_
  show gE _ _ 0 _ _ (gm m []) _ _ _
  refine g_aload_n dX0_init_0 rfl ?_
  refine g_objInit dX0_init_1 (List.mem_of_getElem? (i := 53) (by decide +kernel)) (Nat.le_of_ble_eq_true rfl) (Nat.le_of_ble_eq_true rfl) ?_
  refine g_aload_n dX0_init_4 rfl ?_
  refine g_iconst (v := 0) dX0_init_5 rfl ?_
  refine g_putIq dX0_init_6 lkX0_9 (rfl : jlay 54 = (5, 0)) (Nat.le_of_ble_eq_true rfl) rfl ⟨rfl, rfl⟩ fwX0_0 ?_
  refine g_aload_n dX0_init_9 rfl ?_
  refine g_iconst (v := 0) dX0_init_10 rfl ?_
  refine g_putIq dX0_init_11 lkX0_15 (rfl : jlay 54 = (5, 0)) (Nat.le_of_ble_eq_true rfl) rfl ⟨rfl, rfl⟩ fwX0_1 ?_
  refine g_aload_n dX0_init_14 rfl ?_
  refine g_iconst (v := 0) dX0_init_15 rfl ?_
  refine g_putIq dX0_init_16 lkX0_19 (rfl : jlay 54 = (5, 0)) (Nat.le_of_ble_eq_true rfl) rfl ⟨rfl, rfl⟩ fwX0_2 ?_
  refine g_aload_n dX0_init_19 rfl ?_
  refine g_iconst (v := 3) dX0_init_20 rfl ?_
  refine g_newI (c1 := 55) (N := 3) dX0_init_21 rfl (by decide) (by decide) rfl (Nat.le_of_ble_eq_true rfl) (Nat.le_of_ble_eq_true rfl) (Nat.le_of_ble_eq_true rfl) ?_
  refine g_putRq (o := 1) dX0_init_23 lkX0_22 (rfl : jlay 54 = (5, 0)) (Nat.le_of_ble_eq_true rfl) rfl (by decide) rfl (fun _ => ⟨rfl, rfl⟩) rfl (fun _ _ _ h => by cases h; exact ⟨rfl, rfl⟩) ?_
  refine g_aload_n dX0_init_26 rfl ?_
  refine g_iconst (v := 3) dX0_init_27 rfl ?_
  refine g_newI (c1 := 56) (N := 3) dX0_init_28 rfl (by decide) (by decide) rfl (Nat.le_of_ble_eq_true rfl) (Nat.le_of_ble_eq_true rfl) (Nat.le_of_ble_eq_true rfl) ?_
  refine g_putRq (o := 2) dX0_init_30 lkX0_26 (rfl : jlay 54 = (5, 0)) (Nat.le_of_ble_eq_true rfl) rfl (by decide) rfl (fun _ => ⟨rfl, rfl⟩) rfl (fun _ _ _ h => by cases h; exact ⟨rfl, rfl⟩) ?_
  refine g_aload_n dX0_init_33 rfl ?_
  refine g_iconst (v := 3) dX0_init_34 rfl ?_
  refine g_newI (c1 := 57) (N := 3) dX0_init_35 rfl (by decide) (by decide) rfl (Nat.le_of_ble_eq_true rfl) (Nat.le_of_ble_eq_true rfl) (Nat.le_of_ble_eq_true rfl) ?_
  refine g_putRq (o := 3) dX0_init_37 lkX0_29 (rfl : jlay 54 = (5, 0)) (Nat.le_of_ble_eq_true rfl) rfl (by decide) rfl (fun _ => ⟨rfl, rfl⟩) rfl (fun _ _ _ h => by cases h; exact ⟨rfl, rfl⟩) ?_
  refine g_aload_n dX0_init_40 rfl ?_
  refine g_iconst (v := 0) dX0_init_41 rfl ?_
  refine g_putIq dX0_init_42 lkX0_32 (rfl : jlay 54 = (5, 0)) (Nat.le_of_ble_eq_true rfl) rfl ⟨rfl, rfl⟩ fwX0_6 ?_
  refine g_aload_n dX0_init_45 rfl ?_
  refine g_iconst (v := 5) dX0_init_46 rfl ?_
  refine g_newI (c1 := 58) (N := 5) dX0_init_47 rfl (by decide) (by decide) rfl (Nat.le_of_ble_eq_true rfl) (Nat.le_of_ble_eq_true rfl) (Nat.le_of_ble_eq_true rfl) ?_
  refine g_putRq (o := 4) dX0_init_49 lkX0_35 (rfl : jlay 54 = (5, 0)) (Nat.le_of_ble_eq_true rfl) rfl (by decide) rfl (fun _ => ⟨rfl, rfl⟩) rfl (fun _ _ _ h => by cases h; exact ⟨rfl, rfl⟩) ?_
  refine g_aload_n dX0_init_52 rfl ?_
  refine g_iconst (v := 5) dX0_init_53 rfl ?_
  refine g_newI (c1 := 59) (N := 5) dX0_init_54 rfl (by decide) (by decide) rfl (Nat.le_of_ble_eq_true rfl) (Nat.le_of_ble_eq_true rfl) (Nat.le_of_ble_eq_true rfl) ?_
  refine g_putRq (o := 5) dX0_init_56 lkX0_38 (rfl : jlay 54 = (5, 0)) (Nat.le_of_ble_eq_true rfl) rfl (by decide) rfl (fun _ => ⟨rfl, rfl⟩) rfl (fun _ _ _ h => by cases h; exact ⟨rfl, rfl⟩) ?_
  refine g_aload_n dX0_init_59 rfl ?_
  refine g_iconst (v := 5) dX0_init_60 rfl ?_
  refine g_newI (c1 := 60) (N := 5) dX0_init_61 rfl (by decide) (by decide) rfl (Nat.le_of_ble_eq_true rfl) (Nat.le_of_ble_eq_true rfl) (Nat.le_of_ble_eq_true rfl) ?_
  refine g_putRq (o := 6) dX0_init_63 lkX0_41 (rfl : jlay 54 = (5, 0)) (Nat.le_of_ble_eq_true rfl) rfl (by decide) rfl (fun _ => ⟨rfl, rfl⟩) rfl (fun _ _ _ h => by cases h; exact ⟨rfl, rfl⟩) ?_
  refine g_aload_n dX0_init_66 rfl ?_
  refine g_iconst (v := 0) dX0_init_67 rfl ?_
  refine g_putIq dX0_init_68 lkX0_44 (rfl : jlay 54 = (5, 0)) (Nat.le_of_ble_eq_true rfl) rfl ⟨rfl, rfl⟩ fwX0_10 ?_
  refine g_aload_n dX0_init_71 rfl ?_
  refine g_iconst (v := 3) dX0_init_72 rfl ?_
  refine g_newI (c1 := 61) (N := 3) dX0_init_73 rfl (by decide) (by decide) rfl (Nat.le_of_ble_eq_true rfl) (Nat.le_of_ble_eq_true rfl) (Nat.le_of_ble_eq_true rfl) ?_
  refine g_putRq (o := 7) dX0_init_75 lkX0_47 (rfl : jlay 54 = (5, 0)) (Nat.le_of_ble_eq_true rfl) rfl (by decide) rfl (fun _ => ⟨rfl, rfl⟩) rfl (fun _ _ _ h => by cases h; exact ⟨rfl, rfl⟩) ?_
  refine g_aload_n dX0_init_78 rfl ?_
  refine g_iconst (v := 5) dX0_init_79 rfl ?_
  refine g_newI (c1 := 62) (N := 5) dX0_init_80 rfl (by decide) (by decide) rfl (Nat.le_of_ble_eq_true rfl) (Nat.le_of_ble_eq_true rfl) (Nat.le_of_ble_eq_true rfl) ?_
  refine g_putRq (o := 8) dX0_init_82 lkX0_50 (rfl : jlay 54 = (5, 0)) (Nat.le_of_ble_eq_true rfl) rfl (by decide) rfl (fun _ => ⟨rfl, rfl⟩) rfl (fun _ _ _ h => by cases h; exact ⟨rfl, rfl⟩) ?_
  refine g_aload_n dX0_init_85 rfl ?_
  refine g_iconst (v := 5) dX0_init_86 rfl ?_
  refine g_newI (c1 := 63) (N := 5) dX0_init_87 rfl (by decide) (by decide) rfl (Nat.le_of_ble_eq_true rfl) (Nat.le_of_ble_eq_true rfl) (Nat.le_of_ble_eq_true rfl) ?_
  refine g_putRq (o := 9) dX0_init_89 lkX0_53 (rfl : jlay 54 = (5, 0)) (Nat.le_of_ble_eq_true rfl) rfl (by decide) rfl (fun _ => ⟨rfl, rfl⟩) rfl (fun _ _ _ h => by cases h; exact ⟨rfl, rfl⟩) ?_
  refine g_aload_n dX0_init_92 rfl ?_
  refine g_iconst (v := 5) dX0_init_93 rfl ?_
  refine g_newI (c1 := 64) (N := 5) dX0_init_94 rfl (by decide) (by decide) rfl (Nat.le_of_ble_eq_true rfl) (Nat.le_of_ble_eq_true rfl) (Nat.le_of_ble_eq_true rfl) ?_
  refine g_putRq (o := 10) dX0_init_96 lkX0_56 (rfl : jlay 54 = (5, 0)) (Nat.le_of_ble_eq_true rfl) rfl (by decide) rfl (fun _ => ⟨rfl, rfl⟩) rfl (fun _ _ _ h => by cases h; exact ⟨rfl, rfl⟩) ?_
  exact g_vret dX0_init_99 rfl rfl rfl rfl rfl
