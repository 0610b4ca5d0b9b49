theorem law_start {L : Nat} {xs : Nat → Int32} : gE (lG L xs) M_law 0 [some (.ref 114), none, none, none] [] (gm gz []) 0 0 0 := by
  refine g_newo (c1 := 0) (ci := 3) dL_law_0 (rfl : jCl[3]? = some (RX3, TX3, 18)) (List.mem_of_getElem? (i := 0) (by decide +kernel)) (List.mem_of_getElem? (i := 1) (by decide +kernel)) (List.mem_of_getElem? (i := 2) (by decide +kernel)) rfl rfl (Nat.le_of_ble_eq_true rfl) (Nat.le_of_ble_eq_true rfl) ?_
  refine g_dup dL_law_3 rfl ?_
  refine g_callI mX3_init (t1 := 98) (mc := 97) (ms := 1312) dL_law_4 (List.mem_of_getElem? (i := 6) (by decide +kernel)) (List.mem_of_getElem? (i := 2) (by decide +kernel)) (List.mem_of_getElem? (i := 7) (by decide +kernel)) cd_mX3_init rfl rfl (by decide +kernel) rfl (by decide) ⟨(Nat.le_of_ble_eq_true rfl), (Nat.le_of_ble_eq_true rfl)⟩ kX3_0 (fun m1 h1 => ?_)
  subst h1
  refine g_astore_n (L' := [some (.ref 114), some (.ref 0), none, none]) dL_law_7 (Nat.le_of_ble_eq_true rfl) (Nat.le_of_ble_eq_true rfl) (jnl_at (i := 0) rfl) rfl ?_
  refine g_newo (c1 := 98) (ci := 4) dL_law_8 (rfl : jCl[4]? = some (RX4, TX4, 26)) (List.mem_of_getElem? (i := 3) (by decide +kernel)) (List.mem_of_getElem? (i := 4) (by decide +kernel)) (List.mem_of_getElem? (i := 5) (by decide +kernel)) rfl rfl (Nat.le_of_ble_eq_true rfl) (Nat.le_of_ble_eq_true rfl) ?_
  refine g_dup dL_law_11 rfl ?_
  refine g_callI mX4_init (t1 := 113) (mc := 14) (ms := 2000) dL_law_12 (List.mem_of_getElem? (i := 76) (by decide +kernel)) (List.mem_of_getElem? (i := 5) (by decide +kernel)) (List.mem_of_getElem? (i := 77) (by decide +kernel)) cd_mX4_init rfl rfl (by decide +kernel) rfl (by decide) ⟨(Nat.le_of_ble_eq_true rfl), (Nat.le_of_ble_eq_true rfl)⟩ kX4_98 (fun m1 h1 => ?_)
  subst h1
  refine g_astore_n (L' := [some (.ref 114), some (.ref 0), some (.ref 98), none]) dL_law_15 (Nat.le_of_ble_eq_true rfl) (Nat.le_of_ble_eq_true rfl) (jnl_at (i := 1) rfl) rfl ?_
  refine g_iconst (v := 0) dL_law_16 rfl ?_
  refine g_istore_n (L' := LL 0) dL_law_17 (Nat.le_of_ble_eq_true rfl) (Nat.le_of_ble_eq_true rfl) (jnl_at (i := 2) rfl) rfl ?_
  exact l_cut gz_fin (law_loop 65 0 rfl _ inv0)
theorem law_go {p : Program} {e : Env} {s : State} {m : MethodId} {below : List Frame} {meth : Method} {c : Code} (l : Launch) {b L : Nat} {xs : Nat → Int32} (hL : L ≤ 512) (C0 : lw_At p s m meth c b L xs) (G : jG) (hb : G.2.2 114 = b) (h0 : G.2.2 0 = s.heap.size) (hAd : gAd G) (hK : va_K G.1 jCl (jtys G) s) (hW : gW s) (hN : jNear G (gA G) s s.heap) : W p l e room_1 s m #[Value.ref b] below meth c s.heap [] 0 0 (lw_Z below #[Value.ref b] s) (entryFrame m ([Value.ref b] : List Value).toArray 4) := by
  obtain ⟨a1, a2, a3, a4, a5, a6, a7, a8, a9, -⟩ := C0
  subst hb
  have hl := lv_entry ([Value.ref (G.2.2 114)] : List Value) (n := 4) (Nat.le_of_ble_eq_true rfl)
  rw [lg_entry_eq]
  have hw := law_start (L := L) (xs := xs) p l e G s m #[Value.ref (G.2.2 114)] below meth c ⟨a1, a2, a4, a3, a9, a5, fun w hw => a6 w (wsL_law_in w hw), hK, hW, hAd, fun h => absurd h (by decide +kernel)⟩ ⟨⟨a7, a8, h0, hL⟩, hN⟩ s.heap [] _ ⟨hl.1, hl.2.1, fun i v hi => ?_⟩ ⟨fun c _ hj => absurd hj (Nat.not_lt_zero _), by rw [h0]; rfl⟩ va_S.rf
  · intro T hT Xs
    obtain ⟨t, q1, q2⟩ := hw T hT Xs
    exact ⟨t, q1, q2 rfl⟩
  · match i, hi with
    | 0, hi => cases hi; exact hl.2.2 (0, .ref (G.2.2 114)) List.mem_cons_self
    | 1, hi => cases hi
    | 2, hi => cases hi
    | 3, hi => cases hi
    | n + 4, hi => cases hi
theorem whole_start {p : Program} {e : Env} {s : State} {m : MethodId} {below : List Frame} {meth : Method} {c : Code} (l : Launch) (hflags : l.flags = flags0) {b L : Nat} {xs : Nat → Int32} (hL : L ≤ 512) (C0 : lw_At p s m meth c b L xs) : W p l e room_1 s m #[Value.ref b] below meth c s.heap [] 0 0 (lw_Z below #[Value.ref b] s) (entryFrame m ([Value.ref b] : List Value).toArray 4) := by
  have hts := C0.2.2.2.2.2.1
  have hgv := flat_of_before _ C0.2.2.2.2.2.2.2.2.2
  have ht2 : ∀ w ∈ wsL_law, w.before #[Value.ref b] s = true := fun w h => hts w (wsL_law_in w h)
  obtain ⟨c0, i0, k0⟩ := u_known (C := RX0) (T := TX0) (N := 15) hts inX0 (ht2 (Cond.instantiable RX0 15) (List.mem_of_getElem? (i := 19) (by decide +kernel)))
  obtain ⟨c1, i1, k1⟩ := u_known (C := RX1) (T := TX1) (N := 4) hts inX1 (ht2 (Cond.instantiable RX1 4) (List.mem_of_getElem? (i := 39) (by decide +kernel)))
  obtain ⟨c2, i2, k2⟩ := u_known (C := RX2) (T := TX2) (N := 7) hts inX2 (ht2 (Cond.instantiable RX2 7) (List.mem_of_getElem? (i := 15) (by decide +kernel)))
  obtain ⟨c3, i3, k3⟩ := u_known (C := RX3) (T := TX3) (N := 18) hts inX3 (ht2 (Cond.instantiable RX3 18) (List.mem_of_getElem? (i := 1) (by decide +kernel)))
  obtain ⟨c4, i4, k4⟩ := u_known (C := RX4) (T := TX4) (N := 26) hts inX4 (ht2 (Cond.instantiable RX4 26) (List.mem_of_getElem? (i := 4) (by decide +kernel)))
  have hoR : (Cond.arrayOver (.object "JamSongs$Row")).before #[Value.ref b] s = true := hts _ (List.mem_of_getElem? (i := 81) (by decide +kernel))
  have hoK : (Cond.arrayOver (.object "JamSongs$Kitchen")).before #[Value.ref b] s = true := hts _ (List.mem_of_getElem? (i := 192) (by decide +kernel))
  have hoA : (Cond.arrayOver (.array .int)).before #[Value.ref b] s = true := hts _ (List.mem_of_getElem? (i := 194) (by decide +kernel))
  obtain ⟨a0, ka0, cm0, f01, f02, f03⟩ := Cond.arrayClass_spec (ht2 (Cond.arrayClass .int) (List.mem_of_getElem? (i := 25) (by decide +kernel)))
  obtain ⟨a1, ka1, cm1, f11, f12, f13⟩ := Cond.arrayClass_spec (ht2 (Cond.arrayClass .boolean) (List.mem_of_getElem? (i := 91) (by decide +kernel)))
  obtain ⟨cm2, a2, ka2, f21, f22, f23, f24, f25⟩ := Cond.arrayOver_spec hoR
  obtain ⟨cm3, a3, ka3, f31, f32, f33, f34, f35⟩ := Cond.arrayOver_spec hoK
  obtain ⟨cm4, a4, ka4, f41, f42, f43, f44, f45⟩ := arrayOverA_spec hoA
  have hel : ∀ j : Nat, j < 6 → (Term.elem (.static "JamSongs" "NEAREST" "[I") (.int (Int32.ofNat j))).eval #[Value.ref b] s none [] s = some (.int (jnear j)) := fun j hj => by
    match j, hj with
    | 0, _ => exact va_eqt (z := 0) (hgv _ (by decide +kernel))
    | 1, _ => exact va_eqt (z := 0) (hgv _ (by decide +kernel))
    | 2, _ => exact va_eqt (z := 1) (hgv _ (by decide +kernel))
    | 3, _ => exact va_eqt (z := 1) (hgv _ (by decide +kernel))
    | 4, _ => exact va_eqt (z := 0) (hgv _ (by decide +kernel))
    | 5, _ => exact va_eqt (z := 4) (hgv _ (by decide +kernel))
    | n + 6, h => exact absurd h (by omega)
  obtain ⟨tN, hN1, hN2⟩ := va_Tof (A := fun q => s.heap.size ≤ q) (tm := .static "JamSongs" "NEAREST" "[I") (ty := .int) (N := 6) (f := fun j => .int (jnear j)) (by decide) (hgv _ (by decide +kernel)) (va_eqt (t := .length (.static "JamSongs" "NEAREST" "[I")) (z := 6) (hgv _ (by decide +kernel))) hel (fun a h => Nat.not_le.mpr h)
  have hZ := va_Zof (A := fun q => s.heap.size ≤ q) (hts _ (List.mem_of_getElem? (i := 558) (by decide +kernel))) (ht2 (Cond.initialized RX3) (List.mem_of_getElem? (i := 2) (by decide +kernel))) hN1 (fun a h => Nat.not_le.mpr h)
  refine law_go l hL C0 ((fun k => match k with | 0 => c0 | 1 => c1 | 2 => c2 | 3 => c3 | _ => c4, fun k => match k with | 0 => i0 | 1 => i1 | 2 => i2 | 3 => i3 | _ => i4), (fun k => match k with | 0 => a0 | 1 => a1 | 2 => a2 | 3 => a3 | _ => a4), fun c => if c < 113 then s.heap.size + jor c else if c = 113 then tN else b) rfl rfl ?_ ⟨?_, ?_⟩ ?_ ?_
  · intro c hc
    show (if c < 113 then s.heap.size + jor c else if c = 113 then tN else b) = s.heap.size + 0 + jor c
    rw [if_pos hc]
    rfl
  · intro ci q hq
    match ci, hq with
    | 0, hq => cases hq; exact k0
    | 1, hq => cases hq; exact k1
    | 2, hq => cases hq; exact k2
    | 3, hq => cases hq; exact k3
    | 4, hq => cases hq; exact k4
    | n + 5, hq => simp [jCl] at hq
  · intro k q hq
    match k, hq with
    | 0, hq => cases hq; exact ⟨fun n z => ⟨fun k h => (by cases h), ka0, f02, cm0, f03⟩, f01⟩
    | 1, hq => cases hq; exact ⟨fun n z => ⟨fun k h => (by cases h), ka1, f12, cm1, f13⟩, f11⟩
    | 2, hq => cases hq; exact ⟨fun n z => ⟨fun k h => (by cases h), ka2, f23, cm2, f24⟩, ka2, cm2, f23, f24, f21, f25⟩
    | 3, hq => cases hq; exact ⟨fun n z => ⟨fun k h => (by cases h), ka3, f33, cm3, f34⟩, ka3, cm3, f33, f34, f31, f35⟩
    | 4, hq => cases hq; exact ⟨fun n z => ⟨fun k h => (by cases h), ka4, f43, cm4, f44⟩, f45⟩
    | n + 5, hq => simp [jtys] at hq
  · exact ⟨va_AO.of hoR, va_AO.of hoK, over_moved (Vm.Alike.refl _) hoA, va_Nw.of rfl (hts _ (List.mem_of_getElem? (i := 84) (by decide +kernel))), va_Nw.of rfl (hts _ (List.mem_of_getElem? (i := 117) (by decide +kernel))), va_Nw.of rfl (hts _ (List.mem_of_getElem? (i := 196) (by decide +kernel)))⟩
  · exact ⟨hZ, hN2⟩
set_option maxHeartbeats 4000000 in
theorem lw_walk (l : Launch) (hflags : l.flags = flags0) (b : Addr) (xs : List Int32) : MetFree l x (headSpec (Jvm.Cond.code x code maxLocals ret :: tables_1) room_1) (lw_P b xs) (fun _ _ _ _ _ => True) lw_Q := by
  refine MetFree.of_bodyS (code := code) (maxLocals := maxLocals) (ret := ret) (by decide) ?_ ?_
  · intro args s m h hn
    obtain ⟨meth, c, h1, h2, h3, h4, h5, h6, -, -⟩ := Cond.code_spec hn (atoms_spec (ws := Jvm.Cond.code x code maxLocals ret :: tables_1) h _ List.mem_cons_self)
    exact ⟨meth, c, h1, h2, h3, h4, h5, h6⟩
  · intro p e s m args below meth c s₁ B hml0 hP _
    obtain ⟨rfl, hx, hbd, hgv⟩ := hP
    obtain ⟨scr, harrAt, hlist, hof, hsmall⟩ := hx
    obtain ⟨hcb, hkn, -, -⟩ := State.arrayAt?_spec harrAt
    have hown : s.vm.findClass R_law = some m.cls := findClass_of_methodNamed B.named
    have hts0 : ∀ c ∈ (Jvm.Cond.code x code maxLocals ret :: tables_1), c.before #[Value.ref b] s = true := atoms_spec (ws := Jvm.Cond.code x code maxLocals ret :: tables_1) B.pre
    have hts : ∀ w ∈ lw_tbl, w.before #[Value.ref b] s = true := k2_hts_sels lw_privs (fun w hw => hts0 w (List.mem_cons_of_mem _ hw)) lw_privs_ok
    have hml : c.maxLocals = 4 := B.maxLocals_eq (hts0 _ List.mem_cons_self)
    have X₀ : Stand p l e room_1 s m #[Value.ref b] below meth c s₁ [] 0 0 := Stand.of_body B
    have hh0 : s₁.heap = s.heap := by rw [B.state]; rfl
    have hsz : scr.slots.size = xs.length := by rw [← Array.length_toList, hlist, List.length_map]
    have hval : ∀ j : Nat, j < xs.length → scr.slots[j]? = some (.int (xs.getD j 0)) := fun j hj => by
      rw [← Array.getElem?_toList, hlist]
      simp [hj]
    have hbl : b < s.heap.size := (Array.getElem?_eq_some_iff.mp hcb).1
    have hX : va_X b xs.length (fun j => xs.getD j 0) s s.heap := ⟨scr, hcb, hof, hkn, hsz, hval⟩
    have K : W p l e room_1 s m #[Value.ref b] below meth c s₁.heap [] 0 0 (lw_Z below #[Value.ref b] s) (entryFrame m ([Value.ref b] : List Value).toArray 4) := by
      rw [hh0]
      exact whole_start l hflags hbd ⟨B.exec, B.bytes, B.returns, hml, hown, hts, hX, hbl, B.notSynchronized, hgv⟩
    obtain ⟨t, a1, o, b1, b2, b3⟩ := K s₁ rfl X₀
    exact ⟨t, o, a1, b1, b2, b3⟩
theorem lw_pre_spec {args : Array Value} {s : State} (h : (Jvm.Cond.and given_1 narrow_1).before args s = true) (hr : rest_1_c.before args s = true) : ∃ (b : Addr) (xs : List Int32), lw_P b xs args s := by
  have hs := flat_of_before _ h
  have hq := flat_of_before _ hr
  have hc : (Cond.count 1).before args s = true := hs _ (by decide +kernel)
  have harr : (Cond.arrayOf (.arg 0) .int).before args s = true := hs _ (by decide +kernel)
  have hle : (Cond.le (.length (.arg 0)) (.int 512)).before args s = true := hs _ (by decide +kernel)
  have hlen : (Cond.isInt (.length (.arg 0))).before args s = true := hq _ (by decide +kernel)
  have hall : (Cond.all (.arg 0) (.isInt (.elem (.arg 0) (.index 0)))).before args s = true := hq _ (by decide +kernel)
  obtain ⟨b, xs, hb, hx⟩ := State.ints_of_pre rfl harr hlen hall
  have hsm : xs.length < 2 ^ 31 := hx.choose_spec.2.2.2
  have hev : (Term.length (.arg 0)).eval args s none [] s = some (.int xs.length.toInt32) := hx.length_eval hb
  have hv := Cond.le_ints hev (show (Term.int 512).eval args s none [] s = some (.int 512) from rfl)
  have hd : xs.length.toInt32 ≤ 512 := by
    simpa [Cond.before, Cond.holds, hv] using hle
  have hN : xs.length ≤ 512 := (Int32.ofNat_le_ofNat hsm (by decide)).mp (show Int32.ofNat xs.length ≤ Int32.ofNat 512 from hd)
  exact ⟨b, xs, Cond.one_arg hc (show args[0]? = some (.ref b) from hb), hx, hN, h⟩
theorem lw_comes (l : Launch) (hflags : l.flags = flags0) : Comes l x (Jvm.Cond.code x code maxLocals ret :: tables_1) room_1 (fun tb e args s => Calls_1 tb e args s ∧ rest_1 tb e args s ∧ Pre_1 tb e args s)
    (fun _ _ args s o t => lw_Q args s o t) := by
  intro p e ha hc hk s m args below hf hfit hheap happ hpre
  obtain ⟨b, xs, hP⟩ := lw_pre_spec hpre.2.2 hpre.2.1
  obtain ⟨k, o, h1, h2, h3, hQ⟩ := lw_walk l hflags b xs p e ha hc hk s m args below hf ((Spec.applies_iff_loose hf).mp happ).1 hP trivial
  exact ⟨k, o, h1, h2, h3, hQ⟩
theorem lw_frame {s t : State} {o : Outcome} {args : Array Value} (h : Framed s o t [] 600000 7302250) :
    Framed s o t (fieldLocs frame_1_writes args s ++ arrayLocs frame_1_arrays args s ++ staticLocs frame_1_statics s) 600000 7302250 := h
theorem lw_limb (L : Cond) (hL : ∀ (args : Array Value) (s t : State), L.after args s (.returned (some (.int 1))) t = true) :
    ArmFor flags0 classFile x code maxLocals ret World_1 tables_1 room_1 Calls_1 rest_1 Pre_1
      (fun tb e a s o t => postC L tb e a s o t ∧ Framed s o t (fieldLocs frame_1_writes a s ++ arrayLocs frame_1_arrays a s ++ staticLocs frame_1_statics s) 600000 7302250) := by
  intro l hflags _ _ p e ha hc hk s m args below hf hfit hheap happ hpre
  obtain ⟨k, o, h1, h2, h3, rfl, hF⟩ := lw_comes l hflags p e ha hc hk s m args below hf hfit hheap happ hpre
  exact ⟨k, _, h1, h2, h3, hL args s _, lw_frame hF⟩
theorem i_vc : Claimed_1_1 ∧ Claimed_1_2 := ⟨lw_limb limb_1_1 (fun args s t => by simp [limb_1_1, Cond.after, Cond.holds, Cond.value]), lw_limb limb_1_2 (fun args s t => Cond.after_iff.mpr (by
  first | (rw [show limb_1_2 = Cond.eq .result (.int 1) from rfl, Cond.eq_ints (x := 1) (y := 1) rfl rfl]; simp; done) | (simp [limb_1_2, Cond.value, Term.eval]; done)))⟩
