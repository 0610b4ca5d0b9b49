/-! ===== while the world is being made: cells are born in the order jor, one behind the other ===== -/
def jor (c : Nat) : Nat := if c < 2 then c else if c < 18 then c + 58 else if c < 43 then c - 16 else if c < 65 then c + 33 else if c < 98 then c - 38 else c
def gfv (G : jG) (m : jM) (c ci k : Nat) : Value := if jfo ci k = 0 then .int (m c k) else if m c k = 0 then .null else .ref (G.2.2 (c + jfo ci k))
def gent (G : jG) (m : jM) (c : Nat) : va_E :=
  if (jlay c).1 = 5 then .inr ((jlay c).2, (List.range (jN (jlay c).2)).map (gfv G m c (jlay c).2))
  else if (jlay c).1 < 2 then .inl (G.2.1 (jlay c).1, (jlay c).2, .inl (m c))
  else .inl (G.2.1 (jlay c).1, (jlay c).2, .inr (.inr (.inr (.inr (fun j => if m c j = 0 then none else some (G.2.2 (jtg c j)))))))
def gP (G : jG) (m : jM) (t : Nat) (H : Heap) : Prop := (∀ c, c < 113 → jor c < t → va_at G.1 jCl (G.2.2 c, gent G m c) H) ∧ H.size = G.2.2 0 + t
def gAd (G : jG) : Prop := ∀ c, c < 113 → G.2.2 c = G.2.2 0 + jor c
def gA (G : jG) : Nat → Prop := fun q => G.2.2 0 ≤ q
def gW (s : State) : Prop := va_AO "JamSongs$Row" s ∧ va_AO "JamSongs$Kitchen" s ∧ (Cond.arrayOver (.array .int)).before #[] s = true ∧ va_Nw (.methodLinkNest RX3 17 yX2_init "JamSongs") s ∧ va_Nw (.methodLinkNest RX3 24 yX0_init "JamSongs") s ∧ va_Nw (.methodLinkNest RX3 79 yX1_init "JamSongs") s
theorem gW.moved {s U : State} (hW : s.WarmedH U.vm) (h : gW s) : gW U := ⟨h.1.moved hW.alike, h.2.1.moved hW.alike, over_moved hW.alike h.2.2.1, h.2.2.2.1.warmM hW, h.2.2.2.2.1.warmM hW, h.2.2.2.2.2.warmM hW⟩
abbrev gMode : Type := Room × (jG → State → Array Value → List Frame → State → Prop) × (jG → State → Array Value → Prop)
def gC (G : jG) (M : jMeth) (p : Program) (s : State) (mth : MethodId) (args : Array Value) (meth : Method) (c : Code) : Prop :=
  p.tables.exec = Jvm.exec ∧ c.code = M.2.1 ∧ c.maxLocals = M.2.2.1 ∧ meth.sig.returnType = M.2.2.2.1 ∧ meth.locks = false ∧ s.vm.findClass M.2.2.2.2.1 = some mth.cls ∧ (∀ w ∈ wsL_law, w.before args s = true) ∧ va_K G.1 jCl (jtys G) s ∧ gW s ∧ gAd G ∧ (M.1.name = "<init>" → meth.name = "<init>")
def gE (B : gMode) (M : jMeth) (pc : Nat) (L : List (Option Value)) (S : List Value) (m : jM) (t0 n0 k0 : Nat) : Prop :=
  ∀ (p : Program) (l : Launch) (e : Env) (G : jG) (s : State) (mth : MethodId) (args : Array Value) (below : List Frame) (meth : Method) (c : Code), gC G M p s mth args meth c → B.2.2 G s args →
    ∀ (H : Heap) (locs : List Loc) (ls : Array Slot), jlv G ls M.2.2.1 L → gP G m t0 H → va_S (gA G) s.heap H locs → W p l e B.1 s mth args below meth c H locs n0 k0 (B.2.1 G s args below) (F0 mth pc ls (S.map (jtr G)))
theorem jor_inj {a b : Nat} (ha : a < 113) (hb : b < 113) (h : jor a = jor b) : a = b := by
  unfold jor at h
  (repeat' split at h) <;> omega
theorem gent_to {G : jG} {m m' : jM} {a : Nat} (h : m' a = m a) : gent G m' a = gent G m a := by
  unfold gent
  have e : ∀ ci, gfv G m' a ci = gfv G m a ci := fun ci => by funext k; unfold gfv; rw [h]
  rw [h, e]
theorem gent_arr {G : jG} {m : jM} {c k n : Nat} (h : jlay c = (k, n)) (hk : k < 2) : gent G m c = .inl (G.2.1 k, n, .inl (m c)) := by
  unfold gent
  rw [h]
  rw [if_neg (by show ¬ k = 5; omega), if_pos (show k < 2 from hk)]
theorem gent_refs {G : jG} {m : jM} {c k n : Nat} (h : jlay c = (k, n)) (hk : 2 ≤ k) (hk2 : k < 5) : gent G m c = .inl (G.2.1 k, n, .inr (.inr (.inr (.inr (fun j => if m c j = 0 then none else some (G.2.2 (jtg c j))))))) := by
  unfold gent
  rw [h]
  rw [if_neg (by show ¬ k = 5; omega), if_neg (show ¬ k < 2 by omega)]
theorem gent_obj {G : jG} {m : jM} {c ci : Nat} (h : jlay c = (5, ci)) : gent G m c = .inr (ci, (List.range (jN ci)).map (gfv G m c ci)) := by
  unfold gent
  rw [h]
  rw [if_pos (show (5 : Nat) = 5 from rfl)]
theorem gP_lt {G : jG} {m : jM} {t c : Nat} {H : Heap} (hG : gAd G) (h : gP G m t H) (hc : c < 113) (hj : jor c < t) : G.2.2 c < H.size := by
  rw [hG c hc, h.2]
  omega
theorem gP_set {G : jG} {m : jM} {t c : Nat} {H H1 : Heap} {f : Nat → Int32} (hG : gAd G) (h : gP G m t H) (hc : c < 113) (he : va_at G.1 jCl (G.2.2 c, gent G (jup m c f) c) H1) (z : H1.size = H.size) (oq : ∀ q : Nat, q ≠ G.2.2 c → H1[q]? = H[q]?) : gP G (jup m c f) t H1 := by
  refine ⟨fun d hd hj => ?_, by rw [z]; exact h.2⟩
  by_cases e : d = c
  · subst e
    exact he
  · rw [gent_to (jup_n m f e)]
    refine (h.1 d hd hj).kept (oq _ (fun q => e (jor_inj hd hc ?_)))
    have h1 := hG d hd
    have h2 := hG c hc
    have q : G.2.2 d = G.2.2 c := q
    omega
theorem gP_push {G : jG} {m : jM} {t c : Nat} {H H1 : Heap} {f : Nat → Int32} (hG : gAd G) (h : gP G m t H) (hc : c < 113) (hj : jor c = t) (he : va_at G.1 jCl (G.2.2 c, gent G (jup m c f) c) H1) (z : H1.size = H.size + 1) (oq : ∀ q : Nat, q < H.size → H1[q]? = H[q]?) : gP G (jup m c f) (t + 1) H1 := by
  refine ⟨fun d hd hj2 => ?_, by rw [z, h.2]; omega⟩
  by_cases e : d = c
  · subst e
    exact he
  · rw [gent_to (jup_n m f e)]
    have hlt : jor d < t := by
      have : jor d ≠ jor c := fun q => e (jor_inj hd hc q)
      omega
    exact (h.1 d hd hlt).kept (oq _ (gP_lt hG h hd hlt))
theorem gA_size {G : jG} {m : jM} {t : Nat} {H : Heap} (h : gP G m t H) : gA G H.size := by
  show G.2.2 0 ≤ H.size
  rw [h.2]
  omega
theorem gS_push {G : jG} {H0 H H1 : Heap} {locs : List Loc} (hS : va_S (gA G) H0 H locs) (hz : H.size ≤ H1.size) (o1 : ∀ q : Nat, q < H.size → H1[q]? = H[q]?) : va_S (gA G) H0 H1 locs := ⟨Nat.le_trans hS.1 hz, fun x h1 h2 => (o1 x (Nat.lt_of_lt_of_le h1 hS.1)).trans (hS.2.1 x h1 h2), hS.2.2⟩
theorem g_iconst {B : gMode} {M : jMeth} {pc : Nat} {L : List (Option Value)} {S : List Value} {m : jM} {t0 n0 k0 : Nat} {n : Int} {v : Int32} (hd : decode M.2.1 pc = .ok (.iconst n, 1)) (hv : Int32.ofInt n = v) (k : gE B M (pc + 1) L (.int v :: S) m t0 n0 k0) : gE B M pc L S m t0 n0 k0 := by
  intro p l e G s mth args below meth c C X H locs ls hl hP hS
  exact lv_iconst C.1 C.2.1 hd hv (k p l e G s mth args below meth c C X H locs ls hl hP hS)
theorem g_bipush {B : gMode} {M : jMeth} {pc : Nat} {L : List (Option Value)} {S : List Value} {m : jM} {t0 n0 k0 : Nat} {n : Int} {v : Int32} (hd : decode M.2.1 pc = .ok (.bipush n, 2)) (hv : (Int8.ofInt n).toInt32 = v) (k : gE B M (pc + 2) L (.int v :: S) m t0 n0 k0) : gE B M pc L S m t0 n0 k0 := by
  intro p l e G s mth args below meth c C X H locs ls hl hP hS
  exact lv_bipush C.1 C.2.1 hd hv (k p l e G s mth args below meth c C X H locs ls hl hP hS)
theorem g_sipush {B : gMode} {M : jMeth} {pc : Nat} {L : List (Option Value)} {S : List Value} {m : jM} {t0 n0 k0 : Nat} {n : Int} {v : Int32} (hd : decode M.2.1 pc = .ok (.sipush n, 3)) (hv : (Int16.ofInt n).toInt32 = v) (k : gE B M (pc + 3) L (.int v :: S) m t0 n0 k0) : gE B M pc L S m t0 n0 k0 := by
  intro p l e G s mth args below meth c C X H locs ls hl hP hS
  exact lv_sipush C.1 C.2.1 hd hv (k p l e G s mth args below meth c C X H locs ls hl hP hS)
theorem g_iload_n {B : gMode} {M : jMeth} {pc : Nat} {L : List (Option Value)} {S : List Value} {m : jM} {t0 n0 k0 : Nat} {q : Fin 4} {x : Int32} (hd : decode M.2.1 pc = .ok (.iload_n q, 1)) (hL : L[(q : Nat)]? = some (some (.int x))) (k : gE B M (pc + 1) L (.int x :: S) m t0 n0 k0) : gE B M pc L S m t0 n0 k0 := by
  intro p l e G s mth args below meth c C X H locs ls hl hP hS
  exact lv_iload_n C.1 C.2.1 hd rfl (hl.2.2 _ _ hL) (k p l e G s mth args below meth c C X H locs ls hl hP hS)
theorem g_aload_n {B : gMode} {M : jMeth} {pc : Nat} {L : List (Option Value)} {S : List Value} {m : jM} {t0 n0 k0 : Nat} {q : Fin 4} {x : Nat} (hd : decode M.2.1 pc = .ok (.aload_n q, 1)) (hL : L[(q : Nat)]? = some (some (.ref x))) (k : gE B M (pc + 1) L (.ref x :: S) m t0 n0 k0) : gE B M pc L S m t0 n0 k0 := by
  intro p l e G s mth args below meth c C X H locs ls hl hP hS
  exact lv_aload_n C.1 C.2.1 hd rfl (hl.2.2 _ _ hL) (k p l e G s mth args below meth c C X H locs ls hl hP hS)
theorem g_istore_n {B : gMode} {M : jMeth} {pc : Nat} {L : List (Option Value)} {S : List Value} {m : jM} {t0 n0 k0 : Nat} {q : Fin 4} {x : Int32} {L' : List (Option Value)} (hd : decode M.2.1 pc = .ok (.istore_n q, 1)) (hi : (q : Nat) < M.2.2.1) (hi2 : (q : Nat) < L.length) (hn : ∀ j, j + 1 = (q : Nat) → jnl (L[j]?.getD none) = true) (hL : L.set q (some (.int x)) = L') (k : gE B M (pc + 1) L' S m t0 n0 k0) : gE B M pc L (.int x :: S) m t0 n0 k0 := by
  intro p l e G s mth args below meth c C X H locs ls hl hP hS
  subst hL
  exact lv_istore_n C.1 C.2.1 hd rfl (jlv_has hl) hi rfl (fun ls' h => k p l e G s mth args below meth c C X H locs ls' (jlv_store hn hi2 h) hP hS)
theorem g_astore_n {B : gMode} {M : jMeth} {pc : Nat} {L : List (Option Value)} {S : List Value} {m : jM} {t0 n0 k0 : Nat} {q : Fin 4} {x : Nat} {L' : List (Option Value)} (hd : decode M.2.1 pc = .ok (.astore_n q, 1)) (hi : (q : Nat) < M.2.2.1) (hi2 : (q : Nat) < L.length) (hn : ∀ j, j + 1 = (q : Nat) → jnl (L[j]?.getD none) = true) (hL : L.set q (some (.ref x)) = L') (k : gE B M (pc + 1) L' S m t0 n0 k0) : gE B M pc L (.ref x :: S) m t0 n0 k0 := by
  intro p l e G s mth args below meth c C X H locs ls hl hP hS
  subst hL
  exact lv_astore_n C.1 C.2.1 hd rfl (jlv_has hl) hi rfl (fun ls' h => k p l e G s mth args below meth c C X H locs ls' (jlv_store hn hi2 h) hP hS)
theorem g_iinc {B : gMode} {M : jMeth} {pc : Nat} {L : List (Option Value)} {S : List Value} {m : jM} {t0 n0 k0 : Nat} {i : Nat} {n : Int} {x v : Int32} {L' : List (Option Value)} (hd : decode M.2.1 pc = .ok (.iinc i n, 3)) (hx : L[i]? = some (some (.int x))) (hv : x + Int32.ofInt n = v) (hi : i < M.2.2.1) (hn : ∀ j, j + 1 = i → jnl (L[j]?.getD none) = true) (hL : L.set i (some (.int v)) = L') (k : gE B M (pc + 3) L' S m t0 n0 k0) : gE B M pc L S m t0 n0 k0 := by
  intro p l e G s mth args below meth c C X H locs ls hl hP hS
  subst hL
  obtain ⟨k0, hk0⟩ := List.getElem?_of_mem (jpr_mem (G := G) hx)
  exact lv_iinc C.1 C.2.1 hd (jlv_has hl) (k := k0) hk0 hv hi rfl (fun ls' h => k p l e G s mth args below meth c C X H locs ls' (jlv_store (v := .int v) hn (List.getElem?_eq_some_iff.mp hx).1 h) hP hS)
theorem g_dup {B : gMode} {M : jMeth} {pc : Nat} {L : List (Option Value)} {S : List Value} {m : jM} {t0 n0 k0 : Nat} {v : Value} (hd : decode M.2.1 pc = .ok (.dup, 1)) (hv : v.category = 1) (k : gE B M (pc + 1) L (v :: v :: S) m t0 n0 k0) : gE B M pc L (v :: S) m t0 n0 k0 := by
  intro p l e G s mth args below meth c C X H locs ls hl hP hS
  exact lv_dup C.1 C.2.1 hd (by rw [jtr_cat]; exact hv) (k p l e G s mth args below meth c C X H locs ls hl hP hS)
theorem g_icmp_ge {B : gMode} {M : jMeth} {pc : Nat} {L : List (Option Value)} {S : List Value} {m : jM} {t0 n0 k0 : Nat} {x y : Int32} {off : Int} (tgt : Nat) (hd : decode M.2.1 pc = .ok (.if_icmp .ge off, 3)) (ht : (pc : Int) + off = (tgt : Int)) (kt : y ≤ x → gE B M tgt L S m t0 n0 k0) (kf : ¬ y ≤ x → gE B M (pc + 3) L S m t0 n0 k0) : gE B M pc L (.int y :: .int x :: S) m t0 n0 k0 := by
  intro p l e G s mth args below meth c C X H locs ls hl hP hS
  exact lv_icmp_ge C.1 C.2.1 hd ht (fun h => kt h p l e G s mth args below meth c C X H locs ls hl hP hS) (fun h => kf h p l e G s mth args below meth c C X H locs ls hl hP hS)
theorem g_goto {B : gMode} {M : jMeth} {pc : Nat} {L : List (Option Value)} {S : List Value} {m : jM} {t0 n0 k0 : Nat} {off : Int} (tgt : Nat) (hd : decode M.2.1 pc = .ok (.goto off, 3)) (ht : (pc : Int) + off = (tgt : Int)) (k : gE B M tgt L S m t0 n0 k0) : gE B M pc L S m t0 n0 k0 := by
  intro p l e G s mth args below meth c C X H locs ls hl hP hS
  exact lv_goto C.1 C.2.1 hd ht (k p l e G s mth args below meth c C X H locs ls hl hP hS)
theorem g_dv0 : ∀ j, j < 15 → defaultValue (jty 0 j) = (if jfo 0 j = 0 then .int 0 else .null)
  | 0, _ => rfl
  | 1, _ => rfl
  | 2, _ => rfl
  | 3, _ => rfl
  | 4, _ => rfl
  | 5, _ => rfl
  | 6, _ => rfl
  | 7, _ => rfl
  | 8, _ => rfl
  | 9, _ => rfl
  | 10, _ => rfl
  | 11, _ => rfl
  | 12, _ => rfl
  | 13, _ => rfl
  | 14, _ => rfl
  | n + 15, h => absurd h (by omega)
theorem g_dv1 : ∀ j, j < 4 → defaultValue (jty 1 j) = (if jfo 1 j = 0 then .int 0 else .null)
  | 0, _ => rfl
  | 1, _ => rfl
  | 2, _ => rfl
  | 3, _ => rfl
  | n + 4, h => absurd h (by omega)
theorem g_dv2 : ∀ j, j < 7 → defaultValue (jty 2 j) = (if jfo 2 j = 0 then .int 0 else .null)
  | 0, _ => rfl
  | 1, _ => rfl
  | 2, _ => rfl
  | 3, _ => rfl
  | 4, _ => rfl
  | 5, _ => rfl
  | 6, _ => rfl
  | n + 7, h => absurd h (by omega)
theorem g_dv3 : ∀ j, j < 18 → defaultValue (jty 3 j) = (if jfo 3 j = 0 then .int 0 else .null)
  | 0, _ => rfl
  | 1, _ => rfl
  | 2, _ => rfl
  | 3, _ => rfl
  | 4, _ => rfl
  | 5, _ => rfl
  | 6, _ => rfl
  | 7, _ => rfl
  | 8, _ => rfl
  | 9, _ => rfl
  | 10, _ => rfl
  | 11, _ => rfl
  | 12, _ => rfl
  | 13, _ => rfl
  | 14, _ => rfl
  | 15, _ => rfl
  | 16, _ => rfl
  | 17, _ => rfl
  | n + 18, h => absurd h (by omega)
theorem g_dv4 : ∀ j, j < 26 → defaultValue (jty 4 j) = (if jfo 4 j = 0 then .int 0 else .null)
  | 0, _ => rfl
  | 1, _ => rfl
  | 2, _ => rfl
  | 3, _ => rfl
  | 4, _ => rfl
  | 5, _ => rfl
  | 6, _ => rfl
  | 7, _ => rfl
  | 8, _ => rfl
  | 9, _ => rfl
  | 10, _ => rfl
  | 11, _ => rfl
  | 12, _ => rfl
  | 13, _ => rfl
  | 14, _ => rfl
  | 15, _ => rfl
  | 16, _ => rfl
  | 17, _ => rfl
  | 18, _ => rfl
  | 19, _ => rfl
  | 20, _ => rfl
  | 21, _ => rfl
  | 22, _ => rfl
  | 23, _ => rfl
  | 24, _ => rfl
  | 25, _ => rfl
  | n + 26, h => absurd h (by omega)
theorem g_dv {ci : Nat} {C : String} {T : u_T} {N : Nat} (h : jCl[ci]? = some (C, T, N)) : jN ci = N ∧ ∀ j, j < N → defaultValue (jty ci j) = (if jfo ci j = 0 then .int 0 else .null) := by
  match ci, h with
  | 0, h => cases h; exact ⟨rfl, g_dv0⟩
  | 1, h => cases h; exact ⟨rfl, g_dv1⟩
  | 2, h => cases h; exact ⟨rfl, g_dv2⟩
  | 3, h => cases h; exact ⟨rfl, g_dv3⟩
  | 4, h => cases h; exact ⟨rfl, g_dv4⟩
  | n + 5, h => simp [jCl] at h
theorem g_objInit {B : gMode} {M : jMeth} {pc : Nat} {L : List (Option Value)} {S : List Value} {m : jM} {t0 n0 k0 : Nat} {index a : Nat} (hd : decode M.2.1 pc = .ok (.invokespecial index, 3)) (h1 : Cond.methodLink M.2.2.2.2.1 index Lib.objectInit ∈ wsL_law) (hfr : 1 ≤ B.1.frames) (hlo : (S.map fun v => v.category).sum + 12 ≤ B.1.locals) (k : gE B M (pc + 3) L S m t0 n0 k0) : gE B M pc L (.ref a :: S) m t0 n0 k0 := by
  intro p l e G s mth args below meth c C X H locs ls hl hP hS
  refine W.objInit C.1 C.2.1 C.2.2.2.2.2.1 (C.2.2.2.2.2.2.1 _ h1) (C.2.2.2.2.2.2.1 _ (List.mem_of_getElem? (i := 10) (by decide +kernel))) (C.2.2.2.2.2.2.1 _ (List.mem_of_getElem? (i := 11) (by decide +kernel))) rfl (by show ls.size = _; rw [C.2.2.1, hl.1]) (rest := S.map (jtr G)) rfl hd hfr ?_ (k p l e G s mth args below meth c C X H locs ls hl hP hS)
  have hcat : ((S.map (jtr G)).map fun v => v.category).sum = (S.map fun v => v.category).sum := by
    rw [List.map_map]
    congr 1
    exact List.map_congr_left (fun v _ => jtr_cat G v)
  rw [hcat]
  show 2 * 0 + _ + 12 ≤ _
  omega
theorem g_new {B : gMode} {M : jMeth} {pc : Nat} {L : List (Option Value)} {S : List Value} {m : jM} {t0 n0 k0 : Nat} {index c1 ci : Nat} {Cn : String} {T : u_T} {N : Nat} (hd : decode M.2.1 pc = .ok (.new index, 3)) (hc : jCl[ci]? = some (Cn, T, N)) (hw1 : Cond.classLink M.2.2.2.2.1 index Cn ∈ wsL_law) (hw2 : Cond.instantiable Cn N ∈ wsL_law) (hw3 : Cond.initialized Cn ∈ wsL_law) (ha : jlay c1 = (5, ci)) (hj : jor c1 = t0) (hn : n0 + 1 ≤ B.1.cells) (hk : k0 + N ≤ B.1.slots)
    (k : ∀ m1 : jM, m1 = jup m c1 (fun _ => 0) → gE B M (pc + 3) L (.ref c1 :: S) m1 (t0 + 1) (n0 + 1) (k0 + N)) : gE B M pc L S m t0 n0 k0 := by
  intro p l e G s mth args below meth c C X H locs ls hl hP hS
  have hlt : c1 < 113 := jlay_lt ha (by omega)
  have hA := C.2.2.2.2.2.2.2.2.2.1
  have had : H.size = G.2.2 c1 := by rw [hP.2, hA c1 hlt, hj]
  have hKn := C.2.2.2.2.2.2.2.1.1 ci _ hc
  obtain ⟨g1, g2⟩ := jty_ok hc
  obtain ⟨g3, g4⟩ := g_dv hc
  refine W.newcK C.1 C.2.1 C.2.2.2.2.2.1 (C.2.2.2.2.2.2.1 _ hw1) (C.2.2.2.2.2.2.1 _ hw2) (C.2.2.2.2.2.2.1 _ hw3) rfl hd hn hk hKn.2.1 had (fun H1 kC hkC e1 z1 o1 => ?_)
  have o2 : ∀ q : Nat, q < H.size → H1[q]? = H[q]? := fun q hq => o1 q (by rw [← had]; exact hq)
  refine k _ rfl p l e G s mth args below meth c C X H1 locs ls hl (gP_push hA hP hlt hj ?_ (by rw [z1, had]) o2) (gS_push hS (by rw [z1, had]; omega) o2)
  rw [gent_obj ha]
  refine ⟨_, hc, (u_born (jty ci) C.2.2.2.2.2.2.1 (jin hc) hKn hkC e1 g1).to (fun j hj => ?_)⟩
  rw [g4 j hj]
  show _ = ((List.range (jN ci)).map _).getD j _
  rw [List.getD_eq_getElem?_getD, List.getElem?_map, List.getElem?_range (by rw [g3]; exact hj)]
  show _ = gfv _ _ _ _ _
  unfold gfv
  rw [jup_s]
  by_cases h0 : jfo ci j = 0
  · rw [if_pos h0, if_pos h0]
  · rw [if_neg h0, if_neg h0, if_pos rfl]
theorem g_newa {B : gMode} {M : jMeth} {pc : Nat} {L : List (Option Value)} {S : List Value} {m : jM} {t0 n0 k0 : Nat} {at1 : ArrayType} {x : Int32} {c1 kd N : Nat} (hd : decode M.2.1 pc = .ok (.newarray at1, 2)) (hw : Cond.arrayClass (newarray.typeOf at1) ∈ wsL_law) (hdf : defaultValue (newarray.typeOf at1) = .int 0) (hb : N * componentBytes (newarray.typeOf at1) ≤ 536870912) (hra : ∀ (G : jG) (s : State), va_K G.1 jCl (jtys G) s → s.vm.findClass ("[" ++ (newarray.typeOf at1).toString) = some (G.2.1 kd)) (ha : jlay c1 = (kd, N)) (hkd : kd < 2) (hx : ¬ x < 0) (hx2 : x.toNatClampNeg = N) (hj : jor c1 = t0) (hn : n0 + 1 ≤ B.1.cells) (hk : k0 + N ≤ B.1.slots)
    (k : ∀ m1 : jM, m1 = jup m c1 (fun _ => 0) → gE B M (pc + 2) L (.ref c1 :: S) m1 (t0 + 1) (n0 + 1) (k0 + N)) : gE B M pc L (.int x :: S) m t0 n0 k0 := by
  intro p l e G s mth args below meth c C X H locs ls hl hP hS
  have hlt : c1 < 113 := jlay_lt ha (by omega)
  have hA := C.2.2.2.2.2.2.2.2.2.1
  have had : H.size = G.2.2 c1 := by rw [hP.2, hA c1 hlt, hj]
  refine va_newaK C.1 C.2.1 (C.2.2.2.2.2.2.1 _ hw) rfl hd rfl hx hx2 hb hn hk had (fun H1 cA e1 z1 o1 hAr hNm => ?_)
  have ec : cA = G.2.1 kd := Option.some.inj (hNm.symm.trans (hra G s C.2.2.2.2.2.2.2.1))
  subst ec
  have o2 : ∀ q : Nat, q < H.size → H1[q]? = H[q]? := fun q hq => o1 q (by rw [← had]; exact hq)
  refine k _ rfl p l e G s mth args below meth c C X H1 locs ls hl (gP_push hA hP hlt hj ?_ (by rw [z1, had]) o2) (gS_push hS (by rw [z1, had]; omega) o2)
  rw [gent_arr ha hkd, jup_s]
  show H1[_]? = some (vp_cell _ _)
  rw [vp_cell_i, e1, hdf]
theorem g_newq {B : gMode} {M : jMeth} {pc : Nat} {L : List (Option Value)} {S : List Value} {m : jM} {t0 n0 k0 : Nat} {index : Nat} {x : Int32} {c1 kd N : Nat} {Cn : String} (hd : decode M.2.1 pc = .ok (.anewarray index, 3)) (hw1 : Cond.classLink M.2.2.2.2.1 index Cn ∈ wsL_law) (hov : ∀ s, gW s → va_AO Cn s) (hb : N * 4 ≤ 536870912) (hra : ∀ (G : jG) (s : State), va_K G.1 jCl (jtys G) s → s.vm.findClass ("[" ++ (FieldType.object Cn).toString) = some (G.2.1 kd)) (ha : jlay c1 = (kd, N)) (hkd : 2 ≤ kd ∧ kd < 5) (hx : ¬ x < 0) (hx2 : x.toNatClampNeg = N) (hj : jor c1 = t0) (hn : n0 + 1 ≤ B.1.cells) (hk : k0 + N ≤ B.1.slots)
    (k : ∀ m1 : jM, m1 = jup m c1 (fun _ => 0) → gE B M (pc + 3) L (.ref c1 :: S) m1 (t0 + 1) (n0 + 1) (k0 + N)) : gE B M pc L (.int x :: S) m t0 n0 k0 := by
  intro p l e G s mth args below meth c C X H locs ls hl hP hS
  have hlt : c1 < 113 := jlay_lt ha (by omega)
  have hA := C.2.2.2.2.2.2.2.2.2.1
  have had : H.size = G.2.2 c1 := by rw [hP.2, hA c1 hlt, hj]
  subst hx2
  refine W.anew C.1 C.2.1 C.2.2.2.2.2.1 (C.2.2.2.2.2.2.1 _ hw1) (va_AO.use (hov s C.2.2.2.2.2.2.2.2.1)) rfl hd rfl hx hb hn hk (fun cA kA comp f1 f2 f3 f4 => ?_)
  have ec : cA = G.2.1 kd := Option.some.inj (f1.symm.trans (hra G s C.2.2.2.2.2.2.2.1))
  subst ec
  generalize hH1 : H.push ({ cls := G.2.1 kd, slots := Array.replicate x.toNatClampNeg .null, vm := .none } : Cell) = H1
  have z1 : H1.size = H.size + 1 := by rw [← hH1, Array.size_push]
  have e1 : H1[H.size]? = some (arrV (G.2.1 kd) x.toNatClampNeg (fun _ => .null)) := by rw [← hH1, Array.getElem?_push_size, ← arrV_new]
  have o2 : ∀ q : Nat, q < H.size → H1[q]? = H[q]? := fun q hq => by rw [← hH1, Array.getElem?_push, if_neg (Nat.ne_of_lt hq)]
  rw [had]
  refine k _ rfl p l e G s mth args below meth c C X H1 locs ls hl (gP_push hA hP hlt hj ?_ z1 o2) (gS_push hS (by omega) o2)
  rw [gent_refs ha hkd.1 hkd.2, jup_s]
  show H1[_]? = some (vp_cell _ _)
  rw [vp_cell_q]
  show H1[G.2.2 c1]? = _
  rw [← had, e1]
  refine congrArg (fun f => some (arrV (G.2.1 kd) x.toNatClampNeg f)) (funext fun j => ?_)
  rw [if_pos rfl]
  rfl
theorem g_mna {B : gMode} {M : jMeth} {pc : Nat} {L : List (Option Value)} {S : List Value} {m : jM} {t0 n0 k0 : Nat} {index : Nat} {x y : Int32} {c1 N K : Nat} (hd : decode M.2.1 pc = .ok (.multianewarray index 2, 4)) (hw1 : Cond.classLink M.2.2.2.2.1 index ("[" ++ (FieldType.array .int).toString) ∈ wsL_law) (hw2 : Cond.arrayClass .int ∈ wsL_law) (ha : jlay c1 = (4, N)) (hin : ∀ j, j < N → jlay (c1 + 1 + j) = (0, K)) (hx : ¬ x < 0) (hx2 : x.toNatClampNeg = N) (hy : ¬ y < 0) (hy2 : y.toNatClampNeg = K) (hb : N * 4 ≤ 536870912) (hb2 : K * componentBytes .int ≤ 536870912) (hb3 : K ≤ 536870912) (hj : jor c1 = t0) (hji : ∀ j, j < N → jor (c1 + 1 + j) = t0 + 1 + j) (htg : ∀ j, j < N → jtg c1 j = c1 + 1 + j) (hn : n0 + (1 + N) ≤ B.1.cells) (hk : k0 + (N + N * K) ≤ B.1.slots)
    (k : ∀ m1 : jM, m1 = (fun c => if c = c1 then (fun j => if j < N then 1 else 0) else if c1 < c ∧ c < c1 + 1 + N then (fun _ => 0) else m c) → gE B M (pc + 4) L (.ref c1 :: S) m1 (t0 + (1 + N)) (n0 + (1 + N)) (k0 + (N + N * K))) : gE B M pc L (.int y :: .int x :: S) m t0 n0 k0 := by
  intro p l e G s mth args below meth c C X H locs ls hl hP hS
  have hlt : c1 < 113 := jlay_lt ha (by omega)
  have hA := C.2.2.2.2.2.2.2.2.2.1
  have had : H.size = G.2.2 c1 := by rw [hP.2, hA c1 hlt, hj]
  have hcy : s.vm.findClass (FieldType.array .int).toString = some (G.2.1 0) := (C.2.2.2.2.2.2.2.1.2 0 _ rfl).2
  have hca : s.vm.findClass ("[" ++ (FieldType.array .int).toString) = some (G.2.1 4) := (C.2.2.2.2.2.2.2.1.2 4 _ rfl).2
  subst hx2
  subst hy2
  refine rr_multi C.1 C.2.1 C.2.2.2.2.2.1 (C.2.2.2.2.2.2.1 _ hw1) C.2.2.2.2.2.2.2.2.1.2.2.1 (C.2.2.2.2.2.2.1 _ hw2) hca hcy hS.1 hd hx hy hb hb2 hn hk (fun U hU => ?_)
  obtain ⟨f1, hold, f2, hrow⟩ := hU
  have hout : arrV (G.2.1 4) x.toNatClampNeg (fun j => if j < x.toNatClampNeg then .ref (H.size + 1 + j) else .null) = vp_cell (G.2.1 4) (x.toNatClampNeg, .inr (.inr (.inr (.inr (fun j => if (if j < x.toNatClampNeg then (1 : Int32) else 0) = 0 then none else some (G.2.2 (jtg c1 j))))))) := by
    rw [vp_cell_q]
    refine congrArg (arrV (G.2.1 4) x.toNatClampNeg) (funext fun j => ?_)
    by_cases q : j < x.toNatClampNeg
    · rw [if_pos q, if_pos q, if_neg (by decide), htg j q]
      have h2 := hA (c1 + 1 + j) (jlay_lt (hin j q) (by omega))
      have h3 := hA c1 hlt
      rw [hji j q] at h2
      rw [hj] at h3
      have h9 : H.size + 1 + j = G.2.2 (c1 + 1 + j) := by omega
      rw [h9]
      rfl
    · rw [if_neg q, if_neg q, if_pos rfl]
      rfl
  rw [hout] at f2
  have hG : gP G (fun c => if c = c1 then (fun j => if j < x.toNatClampNeg then (1 : Int32) else 0) else if c1 < c ∧ c < c1 + 1 + x.toNatClampNeg then (fun _ => 0) else m c) (t0 + (1 + x.toNatClampNeg)) U := by
    refine ⟨fun d hd hj2 => ?_, by rw [f1, hP.2]; omega⟩
    by_cases e1 : d = c1
    · subst e1
      rw [gent_refs ha (by omega) (by omega)]
      show U[_]? = some (vp_cell _ _)
      rw [if_pos rfl]
      show U[G.2.2 d]? = _
      rw [← had]
      exact f2
    · by_cases e2 : c1 < d ∧ d < c1 + 1 + x.toNatClampNeg
      · obtain ⟨j, rfl⟩ : ∃ j, d = c1 + 1 + j := ⟨d - (c1 + 1), by omega⟩
        have hjl : j < x.toNatClampNeg := by omega
        rw [gent_arr (hin j hjl) (by omega), if_neg e1, if_pos e2]
        show U[_]? = some (vp_cell _ _)
        have h2 := hA (c1 + 1 + j) hd
        have h3 := hA c1 hlt
        rw [hji j hjl] at h2
        rw [hj] at h3
        rw [show (G.2.2 (c1 + 1 + j), (Sum.inl (G.2.1 0, y.toNatClampNeg, Sum.inl fun _ => 0) : va_E)).fst = H.size + 1 + j by show G.2.2 (c1 + 1 + j) = _; omega, vp_cell_i]
        exact hrow j hjl
      · have hlo : jor d < t0 := by
          have n1 : jor d ≠ jor c1 := fun q => e1 (jor_inj hd hlt q)
          refine Nat.lt_of_not_le (fun q => ?_)
          have hjl : jor d - (t0 + 1) < x.toNatClampNeg := by omega
          have := jor_inj hd (jlay_lt (hin _ hjl) (by omega)) (by rw [hji _ hjl]; omega)
          omega
        rw [gent_to (m := m) (show (if d = c1 then _ else if c1 < d ∧ d < c1 + 1 + x.toNatClampNeg then _ else m d) = m d by rw [if_neg e1, if_neg e2])]
        exact (hP.1 d hd hlo).kept (hold _ (gP_lt hA hP hd hlo))
  rw [had]
  exact k _ rfl p l e G s mth args below meth c C X U locs ls hl hG (gS_push hS (by rw [f1]; omega) hold)
theorem g_getR {B : gMode} {M : jMeth} {pc : Nat} {L : List (Option Value)} {S : List Value} {m : jM} {t0 n0 k0 : Nat} {index a ci f o : Nat} (hd : decode M.2.1 pc = .ok (.getfield index, 3)) (hf : jFL M.2.2.2.2.1 index ci f) (ha : jlay a = (5, ci)) (hi : jfo ci f = o) (ho : o ≠ 0) {b : Nat} (hb : a + o = b) (hj : jor a < t0) (hm : m a f ≠ 0) (k : gE B M (pc + 3) L (.ref b :: S) m t0 n0 k0) : gE B M pc L (.ref a :: S) m t0 n0 k0 := by
  intro p l e G s mth args below meth c C X H locs ls hl hP hS
  obtain ⟨Cn, T, N, h1, h1b, h2, h3, h4⟩ := hf
  subst hb
  have hP1 : va_P G.1 jCl [(G.2.2 a, gent G m a)] H := fun q x hx => by
    have h0 : q < 1 := (List.getElem?_eq_some_iff.mp hx).1
    rw [show q = 0 by omega] at hx
    cases hx
    exact hP.1 a (jlay_lt ha (by omega)) hj
  refine va_get (own := M.2.2.2.2.1) (ref := Cn) (v := .ref (G.2.2 (a + o))) C.1 C.2.1 C.2.2.2.2.2.2.1 (jin h1) C.2.2.2.2.2.1 C.2.2.2.2.2.2.2.1 hP1 0 (show [(G.2.2 a, gent G m a)][0]? = some (G.2.2 a, _) by rw [gent_obj ha]; rfl) h1 f h2 (C.2.2.2.2.2.2.1 _ h4) (fun x h => by rw [h3] at h; exact h) ?_ hd (k p l e G s mth args below meth c C X H locs ls hl hP hS)
  rw [List.getElem?_map, List.getElem?_range (by omega), Option.map_some]
  unfold gfv
  rw [hi, if_neg ho, if_neg hm]
theorem gfv_set {G : jG} {m : jM} {a ci f : Nat} {x : Int32} {v : Value} (hv : gfv G (jup m a (upd (m a) f x)) a ci f = v) (hf : f < jN ci) : ((List.range (jN ci)).map (gfv G m a ci)).set f v = (List.range (jN ci)).map (gfv G (jup m a (upd (m a) f x)) a ci) := by
  apply List.ext_getElem?
  intro i
  by_cases h : i < jN ci
  · rw [List.getElem?_map, List.getElem?_range h, Option.map_some]
    by_cases e : i = f
    · subst e
      rw [List.getElem?_set_self (by simpa using h), hv]
    · rw [List.getElem?_set_ne (Ne.symm e), List.getElem?_map, List.getElem?_range h, Option.map_some]
      unfold gfv
      rw [jup_s]
      simp [upd, e]
  · rw [List.getElem?_eq_none (by simpa using h), List.getElem?_eq_none (by simpa using h)]
/-- a field is written while the world is being made: v is what the number x stands for there -/
theorem g_put {B : gMode} {M : jMeth} {pc : Nat} {L : List (Option Value)} {S : List Value} {m : jM} {t0 n0 k0 : Nat} {index a ci f : Nat} {x : Int32} {v : Value} (hd : decode M.2.1 pc = .ok (.putfield index, 3)) (hf : jFL M.2.2.2.2.1 index ci f) (ha : jlay a = (5, ci)) (hj : jor a < t0) (hv : ∀ G : jG, gfv G (jup m a (upd (m a) f x)) a ci f = jtr G v) (hn : ∀ G : jG, narrow (jty ci f) (jtr G v) = jtr G v ∧ fits (jty ci f) (jtr G v) = true)
    (hw : (∀ (C : String) (T : u_T) (N : Nat), jCl[ci]? = some (C, T, N) → (T f).2.2.2 = false) ∨ (M.1.name = "<init>" ∧ ∀ (C : String) (T : u_T) (N : Nat), jCl[ci]? = some (C, T, N) → (T f).2.2.2 = true ∧ C = M.2.2.2.2.1))
    (k : ∀ m1 : jM, m1 = jup m a (upd (m a) f x) → gE B M (pc + 3) L S m1 t0 n0 k0) : gE B M pc L (v :: .ref a :: S) m t0 n0 k0 := by
  intro p l e G s mth args below meth c C X H locs ls hl hP hS
  obtain ⟨Cn, T, N, h1, h1b, h2, h3, h4⟩ := hf
  obtain ⟨g1, g2⟩ := jty_ok h1
  have hA := C.2.2.2.2.2.2.2.2.2.1
  have hlt : a < 113 := jlay_lt ha (by omega)
  have hts := C.2.2.2.2.2.2.1
  have hK := C.2.2.2.2.2.2.2.1
  have hap := va_apart (own := M.2.2.2.2.1) hts (jin h1) (jty ci) g1 g2 hK h1
  have hat := hP.1 a hlt hj
  rw [gent_obj ha] at hat
  obtain ⟨r, hr, cell, q1, q2, q3, q4⟩ := hat
  have hr2 : r = (Cn, T, N) := Option.some.inj (hr.symm.trans h1)
  subst hr2
  obtain ⟨hSx, hfc, kC, hkC, hkind⟩ := hK.1 ci _ h1
  obtain ⟨cf, kf, fi, fd, hi, hsl⟩ := hSx f h2
  have hlay := hts _ (jin h1 _ (u_in_lay h2))
  have hst := (u_facts hfc hkC (u_lays hts (jin h1) h2) hi).1
  have hsame : s.fieldFound? Cn (T f).2.1 (T f).2.2.1 = some (cf, kf, fi, fd) := by rw [h3] at hi; exact hi
  have hgA : gA G (G.2.2 a) := by
    show G.2.2 0 ≤ G.2.2 a
    rw [hA a hlt]
    omega
  have hl2 : f < ((List.range (jN ci)).map (gfv G m a ci)).length := by simpa [h1b] using h2
  have fin : ∀ H1 : Heap, H1[G.2.2 a]? = some (cell.setSlot fd.slot (jtr G v)) → H1.size = H.size → (∀ q : Nat, q ≠ G.2.2 a → H1[q]? = H[q]?) → W p l e B.1 s mth args below meth c H1 (locs ++ [⟨G.2.2 a, fd.slot⟩]) n0 k0 (B.2.1 G s args below) (F0 mth (pc + 3) ls (S.map (jtr G))) := by
    intro H1 e1 e2 e3
    refine k _ rfl p l e G s mth args below meth c C X H1 _ ls hl (gP_set hA hP hlt ?_ e2 e3) (hS.put e2 e3 hgA)
    rw [gent_obj ha, ← gfv_set (hv G) (by rw [h1b]; exact h2)]
    rw [hsl] at e1
    exact ⟨_, h1, t_OB.to (V := updV (vp_V ((List.range (jN ci)).map (gfv G m a ci))) f (jtr G v)) ⟨_, e1, q2, q3, t_set q4 hap h2 (jtr G v)⟩ (fun j _ => vp_updV_set hl2 (jtr G v) j)⟩
  have hw9 := hw
  rcases hw with hw | ⟨hname, hw⟩
  · unfold u_lay at hlay
    rw [if_neg (by rw [hw _ _ _ h1]; decide)] at hlay
    have h6 := u_store hfc hkC hkind hlay hi (g1 f h2) (hn G).1 (hn G).2
    exact W.putK C.1 C.2.1 (f := fd) ⟨C.2.2.2.2.2.1, hts _ h4, ⟨_, _, _, hsame⟩, hst⟩ (by rw [q2]; exact h6) q1 q3 (by rw [hsl]; exact k2_hasslot (q4 f h2)) rfl (rest := S.map (jtr G)) rfl hd fin
  · obtain ⟨hfin, hcl⟩ := hw _ _ _ h1
    unfold u_lay at hlay
    rw [if_pos hfin] at hlay
    have hcf : mth.cls = cf := by
      obtain ⟨_, _, c', _, _, _, -, -, hf', -, -, -, hown2, -⟩ := Cond.laysFinal_spec hlay
      have e1 : c' = cf := by have := hi.symm.trans hf'; simp at this; exact this.1.symm
      have hown := C.2.2.2.2.2.1
      rw [← hcl, ← h3] at hown
      rw [← e1]; exact Option.some.inj (hown.symm.trans hown2)
    have h6 := u_fits hfc hkC hkind (Or.inr hlay) hi (g1 f h2) (hn G).1 (hn G).2
    exact W.putFinK C.1 C.2.1 C.2.2.2.2.2.1 (hts _ h4) hsame hst hcf (C.2.2.2.2.2.2.2.2.2.2 hname) (by rw [q2]; exact h6) q1 q3 (by rw [hsl]; exact k2_hasslot (q4 f h2)) rfl (rest := S.map (jtr G)) rfl hd fin
theorem g_putI {B : gMode} {M : jMeth} {pc : Nat} {L : List (Option Value)} {S : List Value} {m : jM} {t0 n0 k0 : Nat} {index a ci f : Nat} {x : Int32} (hd : decode M.2.1 pc = .ok (.putfield index, 3)) (hf : jFL M.2.2.2.2.1 index ci f) (ha : jlay a = (5, ci)) (hj : jor a < t0) (hi : jfo ci f = 0) (hn : narrow (jty ci f) (.int x) = .int x ∧ fits (jty ci f) (.int x) = true) (hw : jFW ci f)
    (k : ∀ m1 : jM, m1 = jup m a (upd (m a) f x) → gE B M (pc + 3) L S m1 t0 n0 k0) : gE B M pc L (.int x :: .ref a :: S) m t0 n0 k0 :=
  g_put hd hf ha hj (fun G => by unfold gfv; rw [if_pos hi, jup_s]; simp [upd, jtr]) (fun _ => hn) (Or.inl hw) k
theorem g_putR {B : gMode} {M : jMeth} {pc : Nat} {L : List (Option Value)} {S : List Value} {m : jM} {t0 n0 k0 : Nat} {index a ci f o b : Nat} (hd : decode M.2.1 pc = .ok (.putfield index, 3)) (hf : jFL M.2.2.2.2.1 index ci f) (ha : jlay a = (5, ci)) (hj : jor a < t0) (hi : jfo ci f = o) (ho : o ≠ 0) (hb : a + o = b) (hn : ∀ q : Nat, narrow (jty ci f) (.ref q) = .ref q ∧ fits (jty ci f) (.ref q) = true) (hname : M.1.name = "<init>") (hw : ∀ (C : String) (T : u_T) (N : Nat), jCl[ci]? = some (C, T, N) → (T f).2.2.2 = true ∧ C = M.2.2.2.2.1)
    (k : ∀ m1 : jM, m1 = jup m a (upd (m a) f 1) → gE B M (pc + 3) L S m1 t0 n0 k0) : gE B M pc L (.ref b :: .ref a :: S) m t0 n0 k0 :=
  g_put hd hf ha hj (fun G => by subst hb; unfold gfv; rw [hi, if_neg ho, jup_s]; simp [upd, jtr]) (fun G => hn _) (Or.inr ⟨hname, hw⟩) k
theorem g_iast {B : gMode} {M : jMeth} {pc : Nat} {L : List (Option Value)} {S : List Value} {m : jM} {t0 n0 k0 : Nat} {a n : Nat} {i x : Int32} (hd : decode M.2.1 pc = .ok (.iastore, 1)) (ha : jlay a = (0, n)) (hja : jor a < t0) (j : Nat) (hi : i = nI j) (hj : j < n) (hn : n < 2 ^ 31) (k : ∀ m1 : jM, m1 = jup m a (upd (m a) j x) → gE B M (pc + 1) L S m1 t0 n0 k0) : gE B M pc L (.int x :: .int i :: .ref a :: S) m t0 n0 k0 := by
  intro p l e G s mth args below meth c C X H locs ls hl hP hS
  subst hi
  have hA := C.2.2.2.2.2.2.2.2.2.1
  have hlt : a < 113 := jlay_lt ha (by omega)
  have hat := hP.1 a hlt hja
  rw [gent_arr ha (by omega)] at hat
  have hgA : gA G (G.2.2 a) := by
    show G.2.2 0 ≤ G.2.2 a
    rw [hA a hlt]
    omega
  refine W.iast C.1 C.2.1 hat ((C.2.2.2.2.2.2.2.1.2 0 _ rfl).1 n (fun j => .int (m a j))) (fun q => by cases q) (by show ¬ (nI j < 0 ∨ (arrV _ _ _).slots.size ≤ _); rw [arrV_size]; exact vp_in_nI hj hn) rfl (rest := S.map (jtr G)) rfl hd (fun H1 e1 z oq => ?_)
  have hcl : (nI j).toNatClampNeg = j := nI_clamp (by omega)
  rw [hcl] at e1 ⊢
  refine k _ rfl p l e G s mth args below meth c C X H1 _ ls hl (gP_set hA hP hlt ?_ z oq) (hS.put z oq hgA)
  rw [gent_arr ha (by omega), jup_s]
  show H1[_]? = some (vp_cell _ _)
  rw [e1]
  rw [vp_cell_i, vp_cell_i, arrV_store]
  congr 2
  funext q
  by_cases hq : q = j
  · subst hq
    simp [updV, upd]
  · simp [updV, upd, hq]
theorem g_aast {B : gMode} {M : jMeth} {pc : Nat} {L : List (Option Value)} {S : List Value} {m : jM} {t0 n0 k0 : Nat} {a n kd ci b : Nat} {i : Int32} {r : vw_C} (hd : decode M.2.1 pc = .ok (.aastore, 1)) (ha : jlay a = (kd, n)) (hkd : 2 ≤ kd ∧ kd < 5) (hja : jor a < t0) (hb : jlay b = (5, ci)) (hjb : jor b < t0) (hc : jCl[ci]? = some r) (ht : ∀ G : jG, (jtys G)[kd]? = some (G.2.1 kd, .object r.1)) (j : Nat) (hi : i = nI j) (hj : j < n) (hn : n < 2 ^ 31) (htg : jtg a j = b) (k : ∀ m1 : jM, m1 = jup m a (upd (m a) j 1) → gE B M (pc + 1) L S m1 t0 n0 k0) : gE B M pc L (.ref b :: .int i :: .ref a :: S) m t0 n0 k0 := by
  intro p l e G s mth args below meth c C X H locs ls hl hP hS
  subst hi
  have hA := C.2.2.2.2.2.2.2.2.2.1
  have hK := C.2.2.2.2.2.2.2.1
  have hlt : a < 113 := jlay_lt ha (by omega)
  have hat := hP.1 a hlt hja
  rw [gent_refs ha hkd.1 hkd.2] at hat
  have hbt := hP.1 b (jlay_lt hb (by omega)) hjb
  rw [gent_obj hb] at hbt
  obtain ⟨r', hr', cellV, g1, g2, g3, -⟩ := hbt
  have hcls := (hK.1 ci r hc).2
  obtain ⟨kA, comp, k1, k2, k3, -⟩ := (hK.2 kd _ (ht G)).2
  have hcomp : comp = G.1.1 ci := Option.some.inj (k3.symm.trans hcls.1)
  subst hcomp
  obtain ⟨kC, hkC, -⟩ := hcls.2
  have hcl : (nI j).toNatClampNeg = j := nI_clamp (by omega)
  have hgA : gA G (G.2.2 a) := by
    show G.2.2 0 ≤ G.2.2 a
    rw [hA a hlt]
    omega
  refine W.aast C.1 C.2.1 hat (fun q h => by cases h) (fun h => by cases h) k1 k2 rfl hkC ⟨fun q => (vp_in_nI hj hn) (Or.inl q), by show _ < (arrV _ _ _).slots.size; rw [arrV_size, hcl]; exact hj⟩ g1 (fun q h => by rw [g3] at h; cases h) (by rw [g2]; exact hkC) (by rw [g2]; exact va_assign hcls) rfl (rest := S.map (jtr G)) rfl hd (fun H1 e1 z oq => ?_)
  rw [hcl] at e1 ⊢
  refine k _ rfl p l e G s mth args below meth c C X H1 _ ls hl (gP_set hA hP hlt ?_ z oq) (hS.put z oq hgA)
  rw [gent_refs ha hkd.1 hkd.2, jup_s]
  show H1[_]? = some (vp_cell _ _)
  rw [e1]
  rw [vp_cell_q, vp_cell_q, arrV_store]
  congr 2
  funext q
  by_cases hq : q = j
  · subst hq
    simp [updV, upd, va_rf, htg]
  · simp [updV, upd, hq]
/-! contracts of what makes objects -/
def grm (M : jMeth) (mc ms : Nat) : Room := { frames := M.2.2.2.2.2.1, cells := mc, slots := ms, locals := M.2.2.2.2.2.2 }
def gPc (G : jG) (as : List Value) (m : jM) (t : Nat) : Array Value → State → Prop := va_Pc (as.map (jtr G)) (fun U => gP G m t U.heap ∧ va_K G.1 jCl (jtys G) U ∧ gW U ∧ gAd G)
def gQc (G : jG) (t1 : Nat) (Post : jM → Prop) : Array Value → State → Outcome → State → Prop := fun _ st oc t => (∃ m' : jM, Post m' ∧ oc = .returned none ∧ gP G m' t1 t.heap) ∧ va_F (gA G) st t
def gX (M : jMeth) (as : List Value) (m : jM) (t t1 mc ms : Nat) (Post : jM → Prop) : Prop := ∀ (l : Launch) (G : jG), Met l M.1 (jws M) (grm M mc ms) (gPc G as m t) (gQc G t1 Post) mc ms (gA G)
def gmd (M : jMeth) (t1 mc ms : Nat) (Post : jM → Prop) : gMode := (grm M mc ms, fun G s args below => MQ below (gQc G t1 Post) args s mc ms (gA G), fun _ _ _ => True)
theorem g_vret {M : jMeth} {pc : Nat} {L : List (Option Value)} {m : jM} {t1 mc ms : Nat} {Q : jM → Prop} (hd : decode M.2.1 pc = .ok (.return_, 1)) (hr : M.2.2.2.1 = none) {t0 n0 k0 : Nat} (ht : t0 = t1) (hn : n0 = mc) (hk : k0 = ms) (hq : Q m) : gE (gmd M t1 mc ms Q) M pc L [] m t0 n0 k0 := by
  intro p l e G s mth args below meth c C X H locs ls hl hP hS
  subst ht
  subst hn
  subst hk
  exact W.vret C.1 C.2.1 (C.2.2.2.1.trans hr) (fun t ht hW => ⟨⟨m, hq, rfl, by rw [ht]; exact hP⟩, hS.F ht⟩) hS.2.2 hd C.2.2.2.2.1
theorem gX_of {M : jMeth} {as : List Value} {m : jM} {t t1 mc ms : Nat} {Post : jM → Prop} {L : List (Option Value)} (n : Nat) (hL : jloc as ++ List.replicate n none = L) (hn : (jloc as).length + n = M.2.2.1) (hp : plainName M.1.cls = true) (ho : M.2.2.2.2.1 = M.1.cls)
    (h : gE (gmd M t1 mc ms Post) M 0 L [] m t 0 0) : gX M as m t t1 mc ms Post := by
  intro l G
  refine Met.ofW (cc := M.2.1) (maxL := M.2.2.1) (ret := M.2.2.2.1) hp rfl ?_
  intro p e s mth args below meth c s₁ B hml hv
  obtain ⟨rfl, hP, hK, hGW, hAd⟩ := hv
  have hts := atoms_spec (ws := jws M) B.pre
  have hC : gC G M p s mth (as.map (jtr G)).toArray meth c :=
    ⟨B.exec, B.bytes, hml, B.returns, B.notSynchronized, by rw [ho]; exact findClass_of_methodNamed B.named, fun w hw => hts w (List.mem_cons_of_mem _ hw), hK, hGW, hAd, fun h => (name_of_methodNamed B.named B.method).1.trans h⟩
  have hl := lv_entry (as.map (jtr G)) (n := M.2.2.1) (by rw [lg_sl_tr]; omega)
  rw [lg_entry_eq]
  refine h p l e G s mth _ below meth c hC trivial s.heap [] _ ⟨hl.1, hl.2.1, fun i v hi => ?_⟩ hP va_S.rf
  refine hl.2.2 (i, jtr G v) ?_
  rw [← hL] at hi
  have hi2 : (jloc as)[i]? = some (some v) := by
    rcases Nat.lt_or_ge i (jloc as).length with q | q
    · rw [List.getElem?_append_left q] at hi
      exact hi
    · rw [List.getElem?_append_right q, List.getElem?_replicate] at hi
      split at hi <;> cases hi
  have := jloc_in G as 0 i v hi2
  rwa [Nat.zero_add] at this
theorem gPc_blind (G : jG) (as : List Value) (m : jM) (t : Nat) : FrameBlind (gPc G as m t) := by
  intro a U g mk q
  obtain ⟨e, hP, hK, hW, hI⟩ := q
  exact ⟨e, hP, va_K.moved (u := U) (U := U.calling g mk a) (Vm.Alike.refl U.vm) hK, ⟨va_AO.moved (u := U) (U := U.calling g mk a) (Vm.Alike.refl U.vm) hW.1, va_AO.moved (u := U) (U := U.calling g mk a) (Vm.Alike.refl U.vm) hW.2.1, over_moved (u := U) (E := U.calling g mk a) (Vm.Alike.refl U.vm) hW.2.2.1, va_Nw.same (u := U) (U := U.calling g mk a) rfl rfl hW.2.2.2.1, va_Nw.same (u := U) (U := U.calling g mk a) rfl rfl hW.2.2.2.2.1, va_Nw.same (u := U) (U := U.calling g mk a) rfl rfl hW.2.2.2.2.2⟩, hI⟩
theorem g_run {B : gMode} {M : jMeth} {pc : Nat} {L : List (Option Value)} {S st0 : List Value} {t1 n0 k0 mc ms : Nat} {Post : jM → Prop} {as : Array Value} {p : Program} {l : Launch} {e : Env} {G : jG} {s : State} {mth : MethodId} {args : Array Value} {below : List Frame} {meth : Method} {c : Code} (C : gC G M p s mth args meth c) (X : B.2.2 G s args) {H : Heap} {locs : List Loc} {ls : Array Slot} (hl : jlv G ls M.2.2.1 L) (hS : va_S (gA G) s.heap H locs)
    (hr : va_Run p l e B.1 s mth args below meth c H locs n0 k0 mc ms (F0 mth pc ls st0) (S.map (jtr G)) (gQc G t1 Post as) (gA G)) (k : ∀ m1 : jM, Post m1 → gE B M (pc + 3) L S m1 t1 (n0 + mc) (k0 + ms)) : W p l e B.1 s mth args below meth c H locs n0 k0 (B.2.1 G s args below) (F0 mth pc ls st0) := by
  intro T hT Xs
  obtain ⟨v, st₀, t, T', L', h0, X', hL, e1, e2, ⟨⟨m1, hpost, hv, hp⟩, hz, hk⟩, st⟩ := hr T hT Xs
  have hv : v = none := Outcome.returned.inj hv
  subst hv
  rw [h0] at hz hk
  have hS1 : va_S (gA G) s.heap T'.heap (locs ++ L') := ⟨Nat.le_trans hS.1 (by rw [e1]; exact hz), fun q h1 h2 => by rw [e1, hk q (Nat.lt_of_lt_of_le h1 hS.1) h2]; exact hS.2.1 q h1 h2, fun q hq => by
      rcases List.mem_append.mp hq with h | h
      · exact hS.2.2 q h
      · exact hL q h⟩
  obtain ⟨t2, a1, b1⟩ := k m1 hpost p l e G s mth args below meth c C X T'.heap (locs ++ L') ls hl (by rw [e1]; exact hp) hS1 T' rfl X'
  exact ⟨t2, st t2 a1, b1⟩
/-- a constructor that a nest mate calls -/
theorem g_callN {B : gMode} {M : jMeth} (M' : jMeth) {pc : Nat} {L : List (Option Value)} {S : List Value} {m : jM} {t0 n0 k0 t1 mc ms : Nat} {Post : jM → Prop} {index a : Nat} (hd : decode M.2.1 pc = .ok (.invokespecial index, 3)) (hlk : ∀ s, gW s → va_Nw (.methodLinkNest M.2.2.2.2.1 index M'.1 "JamSongs") s) (hini : Cond.initialized M'.1.cls ∈ wsL_law) (hins : Cond.instanceMethod M'.1 ∈ wsL_law) (hco : Cond.code M'.1 M'.2.1 M'.2.2.1 none ∈ wsL_law) (hret : M'.2.2.2.1 = none) (hnm : M'.1.name = "<init>") (har : jar M' 0 = true) (hfit : jfit B.1 M' = true) (hsum : (S.map fun v => v.category).sum ≤ 8) (hBc : n0 + mc ≤ B.1.cells ∧ k0 + ms ≤ B.1.slots) (hx : gX M' [.ref a] m t0 t1 mc ms Post) (k : ∀ m1 : jM, Post m1 → gE B M (pc + 3) L S m1 t1 (n0 + mc) (k0 + ms)) : gE B M pc L (.ref a :: S) m t0 n0 k0 := by
  intro p l e G s mth args below meth c C X H locs ls hl hP hS
  have hts := C.2.2.2.2.2.2.1
  have hGW := C.2.2.2.2.2.2.2.2.1
  refine g_run C X hl hS (as := (Value.ref (G.2.2 a) :: ([] : List Value)).toArray) ?_ k
  have hfo := jfit_ok hfit
  exact va_runIN (Ts := wsL_law) (own := M.2.2.2.2.1) (y := M'.1) (bytes := M'.2.1) (maxL := M'.2.2.1) (ws := jws M') (rm := grm M' mc ms) (n := 0) ⟨C.1, C.2.1, C.2.2.1, C.2.2.2.2.2.1, hts⟩ (hx l G)
    ⟨va_cnB (ws' := wsL_law) 0 hts (jgoodIn (fun w hw => by
        rcases List.mem_cons.mp hw with rfl | h
        · rw [hret]; exact hco
        · exact h)) (by show jws M' = _; unfold jws; rw [hret]) rfl rfl (hlk s hGW) (hts _ hini) (jar_ok har) ⟨hfo.1, hfo.2⟩, hnm, hts _ hins⟩
    ⟨gPc_blind G [.ref a] m t0, fun U hU hW => ⟨rfl, by rw [hU]; exact hP, va_K.moved hW.alike C.2.2.2.2.2.2.2.1, hGW.moved hW, C.2.2.2.2.2.2.2.2.2.1⟩⟩ rfl rfl hl.1 rfl (lv_room (jsum hsum)) hd hBc
theorem g_callI {B : gMode} {M : jMeth} (M' : jMeth) {pc : Nat} {L : List (Option Value)} {S : List Value} {m : jM} {t0 n0 k0 t1 mc ms : Nat} {Post : jM → Prop} {index a : Nat} (hd : decode M.2.1 pc = .ok (.invokespecial index, 3)) (hlk : Cond.methodLink M.2.2.2.2.1 index M'.1 ∈ wsL_law) (hini : Cond.initialized M'.1.cls ∈ wsL_law) (hins : Cond.instanceMethod M'.1 ∈ wsL_law) (hco : Cond.code M'.1 M'.2.1 M'.2.2.1 none ∈ wsL_law) (hret : M'.2.2.2.1 = none) (hnm : M'.1.name = "<init>") (har : jar M' 0 = true) (hfit : jfit B.1 M' = true) (hsum : (S.map fun v => v.category).sum ≤ 8) (hBc : n0 + mc ≤ B.1.cells ∧ k0 + ms ≤ B.1.slots) (hx : gX M' [.ref a] m t0 t1 mc ms Post) (k : ∀ m1 : jM, Post m1 → gE B M (pc + 3) L S m1 t1 (n0 + mc) (k0 + ms)) : gE B M pc L (.ref a :: S) m t0 n0 k0 := by
  intro p l e G s mth args below meth c C X H locs ls hl hP hS
  have hts := C.2.2.2.2.2.2.1
  have hGW := C.2.2.2.2.2.2.2.2.1
  refine g_run C X hl hS (as := (Value.ref (G.2.2 a) :: ([] : List Value)).toArray) ?_ k
  have hfo := jfit_ok hfit
  exact va_runI (Ts := wsL_law) (own := M.2.2.2.2.1) (y := M'.1) (bytes := M'.2.1) (maxL := M'.2.2.1) (ws := jws M') (rm := grm M' mc ms) (n := 0) ⟨C.1, C.2.1, C.2.2.1, C.2.2.2.2.2.1, hts⟩ (hx l G)
    ⟨callB_of (ws' := wsL_law) 0 hts (jgoodIn (fun w hw => by
        rcases List.mem_cons.mp hw with rfl | h
        · rw [hret]; exact hco
        · exact h)) (by show jws M' = _; unfold jws; rw [hret]) rfl rfl (hts _ hini) (hts _ hlk) (jar_ok har) ⟨hfo.1, hfo.2⟩, hnm, hts _ hins⟩
    ⟨gPc_blind G [.ref a] m t0, fun U hU hW => ⟨rfl, by rw [hU]; exact hP, va_K.moved hW.alike C.2.2.2.2.2.2.2.1, hGW.moved hW, C.2.2.2.2.2.2.2.2.2.1⟩⟩ rfl rfl hl.1 rfl (lv_room (jsum hsum)) hd hBc
