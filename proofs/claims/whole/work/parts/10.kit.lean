set_option maxHeartbeats 2000000 in
set_option maxRecDepth 20000 in
theorem s_setPans (m : jM) (P : Nat) (hP : P ≤ 5) (h2 : m 102 2 = nI P) : iX mX4_setPans [.ref 98] m (fun v m1 => v = setB (m 102) P ∧ m = m1) := by
  refine jX_of (L := [some (.ref 98), none, none]) 2 rfl rfl (by decide +kernel) rfl ?_
  refine e_iconst (v := 0) dX4_setPans_0 rfl ?_
  refine e_istore_n (L' := [some (.ref 98), some (.int 0), none]) dX4_setPans_1 (Nat.le_of_ble_eq_true rfl) (Nat.le_of_ble_eq_true rfl) (jnl_at (i := 0) rfl) rfl ?_
  refine e_iconst (v := 0) dX4_setPans_2 rfl ?_
  refine e_istore_n (L' := [some (.ref 98), some (.int 0), some (.int 0)]) dX4_setPans_3 (Nat.le_of_ble_eq_true rfl) (Nat.le_of_ble_eq_true rfl) (jnl_at (i := 1) rfl) rfl ?_
  refine e_loop 4 P (fun k => [some (.ref 98), some (.int (setB (m 102) k)), some (.int (nI k))]) (fun k => m) 0 (Nat.zero_le _) rfl (rfl) ?_ ?_
  · show jE _ _ 4 [some (.ref 98), some (.int (setB (m 102) P)), some (.int (nI P))] [] m
    refine e_iload_n dX4_setPans_4 rfl ?_
    refine e_aload_n dX4_setPans_5 rfl ?_
    refine e_getR (o := 4) (b := 102) dX4_setPans_6 lkX4_19 rfl rfl (by decide) rfl ?_
    refine e_iconst (v := 2) dX4_setPans_9 rfl ?_
    refine e_iald dX4_setPans_10 rfl 2 rfl (by decide) (by decide) ?_
    rw [show m 102 2 = nI P from h2]
    refine e_icmp_ge 34 dX4_setPans_11 (by decide) (fun c11 => ?_) (fun h => absurd (j_done rfl rfl) h)
    refine e_iload_n dX4_setPans_34 rfl ?_
    exact e_iret dX4_setPans_35 rfl (⟨rfl, rfl⟩)
  · intro k hk ih
    show jE _ _ 4 [some (.ref 98), some (.int (setB (m 102) k)), some (.int (nI k))] [] m
    refine e_iload_n dX4_setPans_4 rfl ?_
    refine e_aload_n dX4_setPans_5 rfl ?_
    refine e_getR (o := 4) (b := 102) dX4_setPans_6 lkX4_19 rfl rfl (by decide) rfl ?_
    refine e_iconst (v := 2) dX4_setPans_9 rfl ?_
    refine e_iald dX4_setPans_10 rfl 2 rfl (by decide) (by decide) ?_
    rw [show m 102 2 = nI P from h2]
    refine e_icmp_ge 34 dX4_setPans_11 (by decide) (fun h => absurd h (j_more (N := P) rfl rfl (by omega) (by omega))) (fun c11 => ?_)
    refine e_iload_n dX4_setPans_14 rfl ?_
    refine e_aload_n dX4_setPans_15 rfl ?_
    refine e_getR (o := 4) (b := 102) dX4_setPans_16 lkX4_19 rfl rfl (by decide) rfl ?_
    refine e_bipush (v := 41) dX4_setPans_19 rfl ?_
    refine e_iload_n dX4_setPans_21 rfl ?_
    refine e_iadd dX4_setPans_22 ?_
    refine e_iald dX4_setPans_23 rfl (41 + k) (j_add rfl rfl) (by omega) (by decide) ?_
    refine e_iload_n dX4_setPans_24 rfl ?_
    refine e_ishl dX4_setPans_25 ?_
    refine e_ior dX4_setPans_26 ?_
    refine e_istore_n (L' := [some (.ref 98), some (.int ((setB (m 102) k) ||| ((m 102 (41 + k)) <<< ((nI k) &&& 31)))), some (.int (nI k))]) dX4_setPans_27 (Nat.le_of_ble_eq_true rfl) (Nat.le_of_ble_eq_true rfl) (jnl_at (i := 0) rfl) rfl ?_
    refine e_iinc (v := nI (k + 1)) (L' := [some (.ref 98), some (.int ((setB (m 102) k) ||| ((m 102 (41 + k)) <<< ((nI k) &&& 31)))), some (.int (nI (k + 1)))]) dX4_setPans_28 rfl (j_inc rfl) (by decide) (jnl_at (i := 1) rfl) rfl ?_
    refine e_goto 4 dX4_setPans_31 (by decide) ?_
    exact ih

set_option maxHeartbeats 2000000 in
set_option maxRecDepth 20000 in
theorem s_ph259 (m : jM) (p : Nat) (hp : p < 5) (t l x3 x4 x6 : Int32) : jE (jmd mX4_panHears (vP (fun m1 => jup m 102 (setP3 (m 102) p t l) = m1))) mX4_panHears 259 [some (.ref 98), some (.int (nI p)), some (.int l), some (.int x3), some (.int x4), some (.int t), some (.int x6)] [] m := by
  refine e_aload_n dX4_panHears_259 rfl ?_
  refine e_getR (o := 4) (b := 102) dX4_panHears_260 lkX4_19 rfl rfl (by decide) rfl ?_
  refine e_bipush (v := 36) dX4_panHears_263 rfl ?_
  refine e_iload_n dX4_panHears_265 rfl ?_
  refine e_iadd dX4_panHears_266 ?_
  refine e_iload dX4_panHears_267 rfl ?_
  refine e_iast dX4_panHears_269 rfl (36 + p) (j_add rfl rfl) (by omega) (by decide) (fun n1 hn1 => ?_)
  refine e_aload_n dX4_panHears_270 rfl ?_
  refine e_getR (o := 4) (b := 102) dX4_panHears_271 lkX4_19 rfl rfl (by decide) rfl ?_
  refine e_bipush (v := 41) dX4_panHears_274 rfl ?_
  refine e_iload_n dX4_panHears_276 rfl ?_
  refine e_iadd dX4_panHears_277 ?_
  refine e_iload dX4_panHears_278 rfl ?_
  refine e_aload_n dX4_panHears_280 rfl ?_
  refine e_getR (o := 4) (b := 102) dX4_panHears_281 lkX4_19 rfl rfl (by decide) rfl ?_
  refine e_bipush (v := 26) dX4_panHears_284 rfl ?_
  refine e_iload_n dX4_panHears_286 rfl ?_
  refine e_iadd dX4_panHears_287 ?_
  refine e_iald dX4_panHears_288 rfl (26 + p) (j_add rfl rfl) (by omega) (by decide) ?_
  rw [show n1 102 (26 + p) = m 102 (26 + p) from by rw [hn1, jup_s, upd_n _ _ (by omega)]]
  refine e_icmp_lt 296 dX4_panHears_289 (by decide) (fun c289 => ?_) (fun c289 => ?_)
  · refine e_iconst (v := 0) dX4_panHears_296 rfl ?_
    refine e_iast dX4_panHears_297 rfl (41 + p) (j_add rfl rfl) (by omega) (by decide) (fun n2 hn2 => ?_)
    refine e_aload_n dX4_panHears_298 rfl ?_
    refine e_getR (o := 4) (b := 102) dX4_panHears_299 lkX4_19 rfl rfl (by decide) rfl ?_
    refine e_bipush (v := 46) dX4_panHears_302 rfl ?_
    refine e_iload_n dX4_panHears_304 rfl ?_
    refine e_iadd dX4_panHears_305 ?_
    refine e_aload_n dX4_panHears_306 rfl ?_
    refine e_getR (o := 4) (b := 102) dX4_panHears_307 lkX4_19 rfl rfl (by decide) rfl ?_
    refine e_bipush (v := 41) dX4_panHears_310 rfl ?_
    refine e_iload_n dX4_panHears_312 rfl ?_
    refine e_iadd dX4_panHears_313 ?_
    refine e_iald dX4_panHears_314 rfl (41 + p) (j_add rfl rfl) (by omega) (by decide) ?_
    rw [show n2 102 (41 + p) = (if m 102 (26 + p) ≤ t then 1 else 0 : Int32) from by rw [hn2, jup_s, upd_s]; first | rw [if_pos (Int32.not_lt.mp c289)] | rw [if_neg (Int32.not_le.mpr c289)]]
    refine e_iconst (v := 1) dX4_panHears_315 rfl ?_
    refine e_icmp_ne 324 dX4_panHears_316 (by decide) (fun c316 => ?_) (fun c316 => ?_)
    · refine e_iload_n dX4_panHears_324 rfl ?_
      refine e_iast dX4_panHears_325 rfl (46 + p) (j_add rfl rfl) (by omega) (by decide) (fun n3 hn3 => ?_)
      exact e_vret dX4_panHears_326 rfl (by rw [hn3, hn2, hn1]; unfold setP3; rw [jup_s, jup_jup, jup_s, jup_jup]; first | (have g : m 102 (26 + p) ≤ t := Int32.not_lt.mp c289; simp [g] at c316 ⊢; done) | (have g : ¬ m 102 (26 + p) ≤ t := Int32.not_le.mpr c289; simp [g] at c316 ⊢; done))
    · refine e_ldc dX4_panHears_319 kkX4_127 ?_
      refine e_goto 325 dX4_panHears_321 (by decide) ?_
      refine e_iast dX4_panHears_325 rfl (46 + p) (j_add rfl rfl) (by omega) (by decide) (fun n3 hn3 => ?_)
      exact e_vret dX4_panHears_326 rfl (by rw [hn3, hn2, hn1]; unfold setP3; rw [jup_s, jup_jup, jup_s, jup_jup]; first | (have g : m 102 (26 + p) ≤ t := Int32.not_lt.mp c289; simp [g] at c316 ⊢; done) | (have g : ¬ m 102 (26 + p) ≤ t := Int32.not_le.mpr c289; simp [g] at c316 ⊢; done))
  · refine e_iconst (v := 1) dX4_panHears_292 rfl ?_
    refine e_goto 297 dX4_panHears_293 (by decide) ?_
    refine e_iast dX4_panHears_297 rfl (41 + p) (j_add rfl rfl) (by omega) (by decide) (fun n2 hn2 => ?_)
    refine e_aload_n dX4_panHears_298 rfl ?_
    refine e_getR (o := 4) (b := 102) dX4_panHears_299 lkX4_19 rfl rfl (by decide) rfl ?_
    refine e_bipush (v := 46) dX4_panHears_302 rfl ?_
    refine e_iload_n dX4_panHears_304 rfl ?_
    refine e_iadd dX4_panHears_305 ?_
    refine e_aload_n dX4_panHears_306 rfl ?_
    refine e_getR (o := 4) (b := 102) dX4_panHears_307 lkX4_19 rfl rfl (by decide) rfl ?_
    refine e_bipush (v := 41) dX4_panHears_310 rfl ?_
    refine e_iload_n dX4_panHears_312 rfl ?_
    refine e_iadd dX4_panHears_313 ?_
    refine e_iald dX4_panHears_314 rfl (41 + p) (j_add rfl rfl) (by omega) (by decide) ?_
    rw [show n2 102 (41 + p) = (if m 102 (26 + p) ≤ t then 1 else 0 : Int32) from by rw [hn2, jup_s, upd_s]; first | rw [if_pos (Int32.not_lt.mp c289)] | rw [if_neg (Int32.not_le.mpr c289)]]
    refine e_iconst (v := 1) dX4_panHears_315 rfl ?_
    refine e_icmp_ne 324 dX4_panHears_316 (by decide) (fun c316 => ?_) (fun c316 => ?_)
    · refine e_iload_n dX4_panHears_324 rfl ?_
      refine e_iast dX4_panHears_325 rfl (46 + p) (j_add rfl rfl) (by omega) (by decide) (fun n3 hn3 => ?_)
      exact e_vret dX4_panHears_326 rfl (by rw [hn3, hn2, hn1]; unfold setP3; rw [jup_s, jup_jup, jup_s, jup_jup]; first | (have g : m 102 (26 + p) ≤ t := Int32.not_lt.mp c289; simp [g] at c316 ⊢; done) | (have g : ¬ m 102 (26 + p) ≤ t := Int32.not_le.mpr c289; simp [g] at c316 ⊢; done))
    · refine e_ldc dX4_panHears_319 kkX4_127 ?_
      refine e_goto 325 dX4_panHears_321 (by decide) ?_
      refine e_iast dX4_panHears_325 rfl (46 + p) (j_add rfl rfl) (by omega) (by decide) (fun n3 hn3 => ?_)
      exact e_vret dX4_panHears_326 rfl (by rw [hn3, hn2, hn1]; unfold setP3; rw [jup_s, jup_jup, jup_s, jup_jup]; first | (have g : m 102 (26 + p) ≤ t := Int32.not_lt.mp c289; simp [g] at c316 ⊢; done) | (have g : ¬ m 102 (26 + p) ≤ t := Int32.not_le.mpr c289; simp [g] at c316 ⊢; done))

set_option maxHeartbeats 2000000 in
set_option maxRecDepth 20000 in
theorem s_ph183 (m : jM) (p : Nat) (hp : p < 5) (l x6 : Int32) (r : Bool) : jE (jmd mX4_panHears (vP (fun m1 => jup m 102 (setP3 (m 102) p (thkB (m 102 (16 + p)) (m 102 0) (m 102 (36 + p)) l r) l) = m1))) mX4_panHears 183 [some (.ref 98), some (.int (nI p)), some (.int l), some (.int (b01 r)), some (.int (m 102 (16 + p))), some (.int (m 102 (36 + p))), some (.int x6)] [] m := by
  refine e_iload dX4_panHears_183 rfl ?_
  refine e_iconst (v := 5) dX4_panHears_185 rfl ?_
  refine e_icmp_ne 206 dX4_panHears_186 (by decide) (fun c186 => ?_) (fun c186 => ?_)
  · refine e_iload dX4_panHears_206 rfl ?_
    refine e_iconst (v := 4) dX4_panHears_208 rfl ?_
    refine e_icmp_eq 259 dX4_panHears_209 (by decide) (fun c209 => ?_) (fun c209 => ?_)
    · rw [show thkB (m 102 (16 + p)) (m 102 0) (m 102 (36 + p)) l r = m 102 (36 + p) from by unfold thkB; simp_all [b01, j_ltn, -Int32.not_le, -Int32.not_lt]]
      exact s_ph259 m p hp (m 102 (36 + p)) l (b01 r) (m 102 (16 + p)) x6
    · refine e_iload_n dX4_panHears_212 rfl ?_
      refine e_if_lt 259 dX4_panHears_213 (by decide) (fun c213 => ?_) (fun c213 => ?_)
      · rw [show thkB (m 102 (16 + p)) (m 102 0) (m 102 (36 + p)) l r = m 102 (36 + p) from by unfold thkB; simp_all [b01, j_ltn, -Int32.not_le, -Int32.not_lt]]
        exact s_ph259 m p hp (m 102 (36 + p)) l (b01 r) (m 102 (16 + p)) x6
      · refine e_iload_n dX4_panHears_216 rfl ?_
        refine e_if_eq 227 dX4_panHears_217 (by decide) (fun c217 => ?_) (fun c217 => ?_)
        · refine e_iload dX4_panHears_227 rfl ?_
          refine e_iconst (v := 2) dX4_panHears_229 rfl ?_
          refine e_icmp_eq 244 dX4_panHears_230 (by decide) (fun c230 => ?_) (fun c230 => ?_)
          · refine e_iconst (v := 0) dX4_panHears_244 rfl ?_
            refine e_goto 257 dX4_panHears_245 (by decide) ?_
            refine e_istore (L' := [some (.ref 98), some (.int (nI p)), some (.int l), some (.int (b01 r)), some (.int (m 102 (16 + p))), some (.int 0), some (.int x6)]) dX4_panHears_257 (Nat.le_of_ble_eq_true rfl) (Nat.le_of_ble_eq_true rfl) (jnl_at (i := 4) rfl) rfl ?_
            rw [show thkB (m 102 (16 + p)) (m 102 0) (m 102 (36 + p)) l r = 0 from by unfold thkB; simp_all [b01, j_ltn, -Int32.not_le, -Int32.not_lt]]
            exact s_ph259 m p hp (0) l (b01 r) (m 102 (16 + p)) x6
          · refine e_iload dX4_panHears_233 rfl ?_
            refine e_aload_n dX4_panHears_235 rfl ?_
            refine e_getR (o := 4) (b := 102) dX4_panHears_236 lkX4_19 rfl rfl (by decide) rfl ?_
            refine e_iconst (v := 0) dX4_panHears_239 rfl ?_
            refine e_iald dX4_panHears_240 rfl 0 rfl (by decide) (by decide) ?_
            refine e_icmp_ge 248 dX4_panHears_241 (by decide) (fun c241 => ?_) (fun c241 => ?_)
            · refine e_iload dX4_panHears_248 rfl ?_
              refine e_aload_n dX4_panHears_250 rfl ?_
              refine e_getR (o := 4) (b := 102) dX4_panHears_251 lkX4_19 rfl rfl (by decide) rfl ?_
              refine e_iconst (v := 0) dX4_panHears_254 rfl ?_
              refine e_iald dX4_panHears_255 rfl 0 rfl (by decide) (by decide) ?_
              refine e_isub dX4_panHears_256 ?_
              refine e_istore (L' := [some (.ref 98), some (.int (nI p)), some (.int l), some (.int (b01 r)), some (.int (m 102 (16 + p))), some (.int ((m 102 (36 + p)) - (m 102 0))), some (.int x6)]) dX4_panHears_257 (Nat.le_of_ble_eq_true rfl) (Nat.le_of_ble_eq_true rfl) (jnl_at (i := 4) rfl) rfl ?_
              rw [show thkB (m 102 (16 + p)) (m 102 0) (m 102 (36 + p)) l r = (m 102 (36 + p)) - (m 102 0) from by unfold thkB; simp_all [b01, j_ltn, -Int32.not_le, -Int32.not_lt]]
              exact s_ph259 m p hp ((m 102 (36 + p)) - (m 102 0)) l (b01 r) (m 102 (16 + p)) x6
            · refine e_iconst (v := 0) dX4_panHears_244 rfl ?_
              refine e_goto 257 dX4_panHears_245 (by decide) ?_
              refine e_istore (L' := [some (.ref 98), some (.int (nI p)), some (.int l), some (.int (b01 r)), some (.int (m 102 (16 + p))), some (.int 0), some (.int x6)]) dX4_panHears_257 (Nat.le_of_ble_eq_true rfl) (Nat.le_of_ble_eq_true rfl) (jnl_at (i := 4) rfl) rfl ?_
              rw [show thkB (m 102 (16 + p)) (m 102 0) (m 102 (36 + p)) l r = 0 from by unfold thkB; simp_all [b01, j_ltn, -Int32.not_le, -Int32.not_lt]]
              exact s_ph259 m p hp (0) l (b01 r) (m 102 (16 + p)) x6
        · refine e_iload dX4_panHears_220 rfl ?_
          refine e_iconst (v := 1) dX4_panHears_222 rfl ?_
          refine e_iadd dX4_panHears_223 ?_
          refine e_goto 257 dX4_panHears_224 (by decide) ?_
          refine e_istore (L' := [some (.ref 98), some (.int (nI p)), some (.int l), some (.int (b01 r)), some (.int (m 102 (16 + p))), some (.int ((m 102 (36 + p)) + 1)), some (.int x6)]) dX4_panHears_257 (Nat.le_of_ble_eq_true rfl) (Nat.le_of_ble_eq_true rfl) (jnl_at (i := 4) rfl) rfl ?_
          rw [show thkB (m 102 (16 + p)) (m 102 0) (m 102 (36 + p)) l r = (m 102 (36 + p)) + 1 from by unfold thkB; simp_all [b01, j_ltn, -Int32.not_le, -Int32.not_lt]]
          exact s_ph259 m p hp ((m 102 (36 + p)) + 1) l (b01 r) (m 102 (16 + p)) x6
  · refine e_iload_n dX4_panHears_189 rfl ?_
    refine e_if_ge 200 dX4_panHears_190 (by decide) (fun c190 => ?_) (fun c190 => ?_)
    · refine e_iconst (v := 0) dX4_panHears_200 rfl ?_
      refine e_istore (L' := [some (.ref 98), some (.int (nI p)), some (.int l), some (.int (b01 r)), some (.int (m 102 (16 + p))), some (.int 0), some (.int x6)]) dX4_panHears_201 (Nat.le_of_ble_eq_true rfl) (Nat.le_of_ble_eq_true rfl) (jnl_at (i := 4) rfl) rfl ?_
      refine e_goto 259 dX4_panHears_203 (by decide) ?_
      rw [show thkB (m 102 (16 + p)) (m 102 0) (m 102 (36 + p)) l r = 0 from by unfold thkB; simp_all [b01, j_ltn, -Int32.not_le, -Int32.not_lt]]
      exact s_ph259 m p hp (0) l (b01 r) (m 102 (16 + p)) x6
    · refine e_iload dX4_panHears_193 rfl ?_
      refine e_iconst (v := 1) dX4_panHears_195 rfl ?_
      refine e_iadd dX4_panHears_196 ?_
      refine e_goto 201 dX4_panHears_197 (by decide) ?_
      refine e_istore (L' := [some (.ref 98), some (.int (nI p)), some (.int l), some (.int (b01 r)), some (.int (m 102 (16 + p))), some (.int ((m 102 (36 + p)) + 1)), some (.int x6)]) dX4_panHears_201 (Nat.le_of_ble_eq_true rfl) (Nat.le_of_ble_eq_true rfl) (jnl_at (i := 4) rfl) rfl ?_
      refine e_goto 259 dX4_panHears_203 (by decide) ?_
      rw [show thkB (m 102 (16 + p)) (m 102 0) (m 102 (36 + p)) l r = (m 102 (36 + p)) + 1 from by unfold thkB; simp_all [b01, j_ltn, -Int32.not_le, -Int32.not_lt]]
      exact s_ph259 m p hp ((m 102 (36 + p)) + 1) l (b01 r) (m 102 (16 + p)) x6

set_option maxHeartbeats 2000000 in
set_option maxRecDepth 20000 in
theorem s_ph113 (m : jM) (p : Nat) (hp : p < 5) (l x4 : Int32) (r : Bool) : jE (jmd mX4_panHears (vP (fun m1 => jup m 102 (setP3 (m 102) p (thkB (m 102 (16 + p)) (m 102 0) (m 102 (36 + p)) l (rqB (m 102 (16 + p)) (m 102 (46 + p)) l r)) l) = m1))) mX4_panHears 113 [some (.ref 98), some (.int (nI p)), some (.int l), some (.int (b01 r)), some (.int x4), none, none] [] m := by
  refine e_aload_n dX4_panHears_113 rfl ?_
  refine e_getR (o := 4) (b := 102) dX4_panHears_114 lkX4_19 rfl rfl (by decide) rfl ?_
  refine e_bipush (v := 16) dX4_panHears_117 rfl ?_
  refine e_iload_n dX4_panHears_119 rfl ?_
  refine e_iadd dX4_panHears_120 ?_
  refine e_iald dX4_panHears_121 rfl (16 + p) (j_add rfl rfl) (by omega) (by decide) ?_
  refine e_istore (L' := [some (.ref 98), some (.int (nI p)), some (.int l), some (.int (b01 r)), some (.int (m 102 (16 + p))), none, none]) dX4_panHears_122 (Nat.le_of_ble_eq_true rfl) (Nat.le_of_ble_eq_true rfl) (jnl_at (i := 3) rfl) rfl ?_
  refine e_aload_n dX4_panHears_124 rfl ?_
  refine e_getR (o := 4) (b := 102) dX4_panHears_125 lkX4_19 rfl rfl (by decide) rfl ?_
  refine e_bipush (v := 36) dX4_panHears_128 rfl ?_
  refine e_iload_n dX4_panHears_130 rfl ?_
  refine e_iadd dX4_panHears_131 ?_
  refine e_iald dX4_panHears_132 rfl (36 + p) (j_add rfl rfl) (by omega) (by decide) ?_
  refine e_istore (L' := [some (.ref 98), some (.int (nI p)), some (.int l), some (.int (b01 r)), some (.int (m 102 (16 + p))), some (.int (m 102 (36 + p))), none]) dX4_panHears_133 (Nat.le_of_ble_eq_true rfl) (Nat.le_of_ble_eq_true rfl) (jnl_at (i := 4) rfl) rfl ?_
  refine e_aload_n dX4_panHears_135 rfl ?_
  refine e_getR (o := 4) (b := 102) dX4_panHears_136 lkX4_19 rfl rfl (by decide) rfl ?_
  refine e_bipush (v := 46) dX4_panHears_139 rfl ?_
  refine e_iload_n dX4_panHears_141 rfl ?_
  refine e_iadd dX4_panHears_142 ?_
  refine e_iald dX4_panHears_143 rfl (46 + p) (j_add rfl rfl) (by omega) (by decide) ?_
  refine e_istore (L' := [some (.ref 98), some (.int (nI p)), some (.int l), some (.int (b01 r)), some (.int (m 102 (16 + p))), some (.int (m 102 (36 + p))), some (.int (m 102 (46 + p)))]) dX4_panHears_144 (Nat.le_of_ble_eq_true rfl) (Nat.le_of_ble_eq_true rfl) (jnl_at (i := 5) rfl) rfl ?_
  refine e_iload dX4_panHears_146 rfl ?_
  refine e_iconst (v := 3) dX4_panHears_148 rfl ?_
  refine e_icmp_ne 183 dX4_panHears_149 (by decide) (fun c149 => ?_) (fun c149 => ?_)
  · rw [show rqB (m 102 (16 + p)) (m 102 (46 + p)) l r = r from by unfold rqB; simp_all [b01, j_ltn, -Int32.not_le, -Int32.not_lt]]
    exact s_ph183 m p hp l (m 102 (46 + p)) r
  · refine e_iload_n dX4_panHears_152 rfl ?_
    refine e_if_eq 181 dX4_panHears_153 (by decide) (fun c153 => ?_) (fun c153 => ?_)
    · refine e_iconst (v := 0) dX4_panHears_181 rfl ?_
      refine e_istore_n (L' := [some (.ref 98), some (.int (nI p)), some (.int l), some (.int 0), some (.int (m 102 (16 + p))), some (.int (m 102 (36 + p))), some (.int (m 102 (46 + p)))]) dX4_panHears_182 (Nat.le_of_ble_eq_true rfl) (Nat.le_of_ble_eq_true rfl) (jnl_at (i := 2) rfl) rfl ?_
      rw [show rqB (m 102 (16 + p)) (m 102 (46 + p)) l r = false from by unfold rqB; simp_all [b01, j_ltn, -Int32.not_le, -Int32.not_lt]]
      exact s_ph183 m p hp l (m 102 (46 + p)) false
    · refine e_iload dX4_panHears_156 rfl ?_
      refine e_if_lt 181 dX4_panHears_158 (by decide) (fun c158 => ?_) (fun c158 => ?_)
      · refine e_iconst (v := 0) dX4_panHears_181 rfl ?_
        refine e_istore_n (L' := [some (.ref 98), some (.int (nI p)), some (.int l), some (.int 0), some (.int (m 102 (16 + p))), some (.int (m 102 (36 + p))), some (.int (m 102 (46 + p)))]) dX4_panHears_182 (Nat.le_of_ble_eq_true rfl) (Nat.le_of_ble_eq_true rfl) (jnl_at (i := 2) rfl) rfl ?_
        rw [show rqB (m 102 (16 + p)) (m 102 (46 + p)) l r = false from by unfold rqB; simp_all [b01, j_ltn, -Int32.not_le, -Int32.not_lt]]
        exact s_ph183 m p hp l (m 102 (46 + p)) false
      · refine e_iload_n dX4_panHears_161 rfl ?_
        refine e_iload dX4_panHears_162 rfl ?_
        refine e_iconst (v := 2) dX4_panHears_164 rfl ?_
        refine e_iadd dX4_panHears_165 ?_
        refine e_icmp_eq 177 dX4_panHears_166 (by decide) (fun c166 => ?_) (fun c166 => ?_)
        · refine e_iconst (v := 1) dX4_panHears_177 rfl ?_
          refine e_goto 182 dX4_panHears_178 (by decide) ?_
          refine e_istore_n (L' := [some (.ref 98), some (.int (nI p)), some (.int l), some (.int 1), some (.int (m 102 (16 + p))), some (.int (m 102 (36 + p))), some (.int (m 102 (46 + p)))]) dX4_panHears_182 (Nat.le_of_ble_eq_true rfl) (Nat.le_of_ble_eq_true rfl) (jnl_at (i := 2) rfl) rfl ?_
          rw [show rqB (m 102 (16 + p)) (m 102 (46 + p)) l r = true from by unfold rqB; simp_all [b01, j_ltn, -Int32.not_le, -Int32.not_lt]]
          exact s_ph183 m p hp l (m 102 (46 + p)) true
        · refine e_iload_n dX4_panHears_169 rfl ?_
          refine e_iload dX4_panHears_170 rfl ?_
          refine e_iconst (v := 2) dX4_panHears_172 rfl ?_
          refine e_isub dX4_panHears_173 ?_
          refine e_icmp_ne 181 dX4_panHears_174 (by decide) (fun c174 => ?_) (fun c174 => ?_)
          · refine e_iconst (v := 0) dX4_panHears_181 rfl ?_
            refine e_istore_n (L' := [some (.ref 98), some (.int (nI p)), some (.int l), some (.int 0), some (.int (m 102 (16 + p))), some (.int (m 102 (36 + p))), some (.int (m 102 (46 + p)))]) dX4_panHears_182 (Nat.le_of_ble_eq_true rfl) (Nat.le_of_ble_eq_true rfl) (jnl_at (i := 2) rfl) rfl ?_
            rw [show rqB (m 102 (16 + p)) (m 102 (46 + p)) l r = false from by unfold rqB; simp_all [b01, j_ltn, -Int32.not_le, -Int32.not_lt]]
            exact s_ph183 m p hp l (m 102 (46 + p)) false
          · refine e_iconst (v := 1) dX4_panHears_177 rfl ?_
            refine e_goto 182 dX4_panHears_178 (by decide) ?_
            refine e_istore_n (L' := [some (.ref 98), some (.int (nI p)), some (.int l), some (.int 1), some (.int (m 102 (16 + p))), some (.int (m 102 (36 + p))), some (.int (m 102 (46 + p)))]) dX4_panHears_182 (Nat.le_of_ble_eq_true rfl) (Nat.le_of_ble_eq_true rfl) (jnl_at (i := 2) rfl) rfl ?_
            rw [show rqB (m 102 (16 + p)) (m 102 (46 + p)) l r = true from by unfold rqB; simp_all [b01, j_ltn, -Int32.not_le, -Int32.not_lt]]
            exact s_ph183 m p hp l (m 102 (46 + p)) true

set_option maxHeartbeats 2000000 in
set_option maxRecDepth 20000 in
theorem s_panHears (m : jM) (p : Nat) (hp : p < 5) (V : Nat) (hV : V ≤ 3) (h1 : m 102 1 = nI V) : vX mX4_panHears [.ref 98, .int (nI p)] m (fun m1 => jup m 102 (hearB (m 102) (m 106) V p) = m1) := by
  refine jX_of (L := [some (.ref 98), some (.int (nI p)), none, none, none, none, none]) 5 rfl rfl (by decide +kernel) rfl ?_
  refine e_ldc dX4_panHears_0 kkX4_127 ?_
  refine e_istore_n (L' := [some (.ref 98), some (.int (nI p)), some (.int (-1000000)), none, none, none, none]) dX4_panHears_2 (Nat.le_of_ble_eq_true rfl) (Nat.le_of_ble_eq_true rfl) (jnl_at (i := 1) rfl) rfl ?_
  refine e_iconst (v := 1) dX4_panHears_3 rfl ?_
  refine e_istore_n (L' := [some (.ref 98), some (.int (nI p)), some (.int (-1000000)), some (.int 1), none, none, none]) dX4_panHears_4 (Nat.le_of_ble_eq_true rfl) (Nat.le_of_ble_eq_true rfl) (jnl_at (i := 2) rfl) rfl ?_
  refine e_iconst (v := 0) dX4_panHears_5 rfl ?_
  refine e_istore (L' := [some (.ref 98), some (.int (nI p)), some (.int (-1000000)), some (.int 1), some (.int 0), none, none]) dX4_panHears_6 (Nat.le_of_ble_eq_true rfl) (Nat.le_of_ble_eq_true rfl) (jnl_at (i := 3) rfl) rfl ?_
  refine e_loop 8 V (fun k => [some (.ref 98), some (.int (nI p)), some (.int (lsB (m 102) (m 106) p k)), some (.int (b01 (rtB (m 102) (m 106) p k))), some (.int (nI k)), none, none]) (fun k => m) 0 (Nat.zero_le _) rfl (rfl) ?_ ?_
  · show jE _ _ 8 [some (.ref 98), some (.int (nI p)), some (.int (lsB (m 102) (m 106) p V)), some (.int (b01 (rtB (m 102) (m 106) p V))), some (.int (nI V)), none, none] [] m
    refine e_iload dX4_panHears_8 rfl ?_
    refine e_aload_n dX4_panHears_10 rfl ?_
    refine e_getR (o := 4) (b := 102) dX4_panHears_11 lkX4_19 rfl rfl (by decide) rfl ?_
    refine e_iconst (v := 1) dX4_panHears_14 rfl ?_
    refine e_iald dX4_panHears_15 rfl 1 rfl (by decide) (by decide) ?_
    rw [show m 102 1 = nI V from h1]
    refine e_icmp_ge 113 dX4_panHears_16 (by decide) (fun c16 => ?_) (fun h => absurd (j_done rfl rfl) h)
    exact s_ph113 m p hp _ _ _
  · intro k hk ih
    show jE _ _ 8 [some (.ref 98), some (.int (nI p)), some (.int (lsB (m 102) (m 106) p k)), some (.int (b01 (rtB (m 102) (m 106) p k))), some (.int (nI k)), none, none] [] m
    refine e_iload dX4_panHears_8 rfl ?_
    refine e_aload_n dX4_panHears_10 rfl ?_
    refine e_getR (o := 4) (b := 102) dX4_panHears_11 lkX4_19 rfl rfl (by decide) rfl ?_
    refine e_iconst (v := 1) dX4_panHears_14 rfl ?_
    refine e_iald dX4_panHears_15 rfl 1 rfl (by decide) (by decide) ?_
    rw [show m 102 1 = nI V from h1]
    refine e_icmp_ge 113 dX4_panHears_16 (by decide) (fun h => absurd h (j_more (N := V) rfl rfl (by omega) (by omega))) (fun c16 => ?_)
    refine e_aload_n dX4_panHears_19 rfl ?_
    refine e_getR (o := 4) (b := 102) dX4_panHears_20 lkX4_19 rfl rfl (by decide) rfl ?_
    refine e_bipush (v := 31) dX4_panHears_23 rfl ?_
    refine e_iload_n dX4_panHears_25 rfl ?_
    refine e_iadd dX4_panHears_26 ?_
    refine e_iald dX4_panHears_27 rfl (31 + p) (j_add rfl rfl) (by omega) (by decide) ?_
    refine e_iload dX4_panHears_28 rfl ?_
    refine e_callSi (n := 2) mX4_has [.int (m 102 (31 + p)), .int (nI k)] dX4_panHears_30 ckX4_149 rfl (by decide +kernel) rfl rfl (by decide) ⟨Nat.zero_le _, Nat.zero_le _⟩ (s_has (m 102 (31 + p)) (nI k) m) (fun v30 m1 hm1 => ?_)
    rcases hm1 with ⟨rfl, ⟨rfl, q30⟩ | ⟨rfl, q30⟩⟩
    · refine e_if_eq 107 dX4_panHears_33 (by decide) (fun h => absurd h (by decide)) (fun c33 => ?_)
      refine e_aload_n dX4_panHears_36 rfl ?_
      refine e_getR (o := 8) (b := 106) dX4_panHears_37 lkX4_31 rfl rfl (by decide) rfl ?_
      refine e_iload dX4_panHears_40 rfl ?_
      refine e_iald dX4_panHears_42 rfl k rfl (by omega) (by decide) ?_
      refine e_bipush (v := 7) dX4_panHears_43 rfl ?_
      refine e_icmp_ge 107 dX4_panHears_45 (by decide) (fun c45 => ?_) (fun c45 => ?_)
      · refine e_iinc (v := nI (k + 1)) (L' := [some (.ref 98), some (.int (nI p)), some (.int (lsB (m 102) (m 106) p k)), some (.int (b01 (rtB (m 102) (m 106) p k))), some (.int (nI (k + 1))), none, none]) dX4_panHears_107 rfl (j_inc rfl) (by decide) (jnl_at (i := 3) rfl) rfl ?_
        refine e_goto 8 dX4_panHears_110 (by decide) ?_
        refine e_start ?_ rfl ih
        simp_all [lsB, rtB, b01, btI, j_ltn, -Int32.not_le, -Int32.not_lt]
      · refine e_iload_n dX4_panHears_48 rfl ?_
        refine e_if_eq 78 dX4_panHears_49 (by decide) (fun c49 => ?_) (fun c49 => ?_)
        · refine e_iconst (v := 0) dX4_panHears_78 rfl ?_
          refine e_istore_n (L' := [some (.ref 98), some (.int (nI p)), some (.int (lsB (m 102) (m 106) p k)), some (.int 0), some (.int (nI k)), none, none]) dX4_panHears_79 (Nat.le_of_ble_eq_true rfl) (Nat.le_of_ble_eq_true rfl) (jnl_at (i := 2) rfl) rfl ?_
          refine e_iload_n dX4_panHears_80 rfl ?_
          refine e_if_lt 95 dX4_panHears_81 (by decide) (fun c81 => ?_) (fun c81 => ?_)
          · refine e_aload_n dX4_panHears_95 rfl ?_
            refine e_getR (o := 8) (b := 106) dX4_panHears_96 lkX4_31 rfl rfl (by decide) rfl ?_
            refine e_iload dX4_panHears_99 rfl ?_
            refine e_iald dX4_panHears_101 rfl k rfl (by omega) (by decide) ?_
            refine e_goto 106 dX4_panHears_102 (by decide) ?_
            refine e_istore_n (L' := [some (.ref 98), some (.int (nI p)), some (.int (m 106 k)), some (.int 0), some (.int (nI k)), none, none]) dX4_panHears_106 (Nat.le_of_ble_eq_true rfl) (Nat.le_of_ble_eq_true rfl) (jnl_at (i := 1) rfl) rfl ?_
            refine e_iinc (v := nI (k + 1)) (L' := [some (.ref 98), some (.int (nI p)), some (.int (m 106 k)), some (.int 0), some (.int (nI (k + 1))), none, none]) dX4_panHears_107 rfl (j_inc rfl) (by decide) (jnl_at (i := 3) rfl) rfl ?_
            refine e_goto 8 dX4_panHears_110 (by decide) ?_
            refine e_start ?_ rfl ih
            simp_all [lsB, rtB, b01, btI, j_ltn, -Int32.not_le, -Int32.not_lt]
          · refine e_aload_n dX4_panHears_84 rfl ?_
            refine e_getR (o := 8) (b := 106) dX4_panHears_85 lkX4_31 rfl rfl (by decide) rfl ?_
            refine e_iload dX4_panHears_88 rfl ?_
            refine e_iald dX4_panHears_90 rfl k rfl (by omega) (by decide) ?_
            refine e_iload_n dX4_panHears_91 rfl ?_
            refine e_icmp_ge 105 dX4_panHears_92 (by decide) (fun c92 => ?_) (fun c92 => ?_)
            · refine e_iload_n dX4_panHears_105 rfl ?_
              refine e_istore_n (L' := [some (.ref 98), some (.int (nI p)), some (.int (lsB (m 102) (m 106) p k)), some (.int 0), some (.int (nI k)), none, none]) dX4_panHears_106 (Nat.le_of_ble_eq_true rfl) (Nat.le_of_ble_eq_true rfl) (jnl_at (i := 1) rfl) rfl ?_
              refine e_iinc (v := nI (k + 1)) (L' := [some (.ref 98), some (.int (nI p)), some (.int (lsB (m 102) (m 106) p k)), some (.int 0), some (.int (nI (k + 1))), none, none]) dX4_panHears_107 rfl (j_inc rfl) (by decide) (jnl_at (i := 3) rfl) rfl ?_
              refine e_goto 8 dX4_panHears_110 (by decide) ?_
              refine e_start ?_ rfl ih
              simp_all [lsB, rtB, b01, btI, j_ltn, -Int32.not_le, -Int32.not_lt]
            · refine e_aload_n dX4_panHears_95 rfl ?_
              refine e_getR (o := 8) (b := 106) dX4_panHears_96 lkX4_31 rfl rfl (by decide) rfl ?_
              refine e_iload dX4_panHears_99 rfl ?_
              refine e_iald dX4_panHears_101 rfl k rfl (by omega) (by decide) ?_
              refine e_goto 106 dX4_panHears_102 (by decide) ?_
              refine e_istore_n (L' := [some (.ref 98), some (.int (nI p)), some (.int (m 106 k)), some (.int 0), some (.int (nI k)), none, none]) dX4_panHears_106 (Nat.le_of_ble_eq_true rfl) (Nat.le_of_ble_eq_true rfl) (jnl_at (i := 1) rfl) rfl ?_
              refine e_iinc (v := nI (k + 1)) (L' := [some (.ref 98), some (.int (nI p)), some (.int (m 106 k)), some (.int 0), some (.int (nI (k + 1))), none, none]) dX4_panHears_107 rfl (j_inc rfl) (by decide) (jnl_at (i := 3) rfl) rfl ?_
              refine e_goto 8 dX4_panHears_110 (by decide) ?_
              refine e_start ?_ rfl ih
              simp_all [lsB, rtB, b01, btI, j_ltn, -Int32.not_le, -Int32.not_lt]
        · refine e_aload_n dX4_panHears_52 rfl ?_
          refine e_getR (o := 4) (b := 102) dX4_panHears_53 lkX4_19 rfl rfl (by decide) rfl ?_
          refine e_bipush (v := 21) dX4_panHears_56 rfl ?_
          refine e_iload_n dX4_panHears_58 rfl ?_
          refine e_iadd dX4_panHears_59 ?_
          refine e_iald dX4_panHears_60 rfl (21 + p) (j_add rfl rfl) (by omega) (by decide) ?_
          refine e_aload_n dX4_panHears_61 rfl ?_
          refine e_getR (o := 8) (b := 106) dX4_panHears_62 lkX4_31 rfl rfl (by decide) rfl ?_
          refine e_iload dX4_panHears_65 rfl ?_
          refine e_iald dX4_panHears_67 rfl k rfl (by omega) (by decide) ?_
          refine e_callSi (n := 2) mX4_has [.int (m 102 (21 + p)), .int (m 106 k)] dX4_panHears_68 ckX4_149 rfl (by decide +kernel) rfl rfl (by decide) ⟨Nat.zero_le _, Nat.zero_le _⟩ (s_has (m 102 (21 + p)) (m 106 k) m) (fun v68 m2 hm2 => ?_)
          rcases hm2 with ⟨rfl, ⟨rfl, q68⟩ | ⟨rfl, q68⟩⟩
          · refine e_if_eq 78 dX4_panHears_71 (by decide) (fun h => absurd h (by decide)) (fun c71 => ?_)
            refine e_iconst (v := 1) dX4_panHears_74 rfl ?_
            refine e_goto 79 dX4_panHears_75 (by decide) ?_
            refine e_istore_n (L' := [some (.ref 98), some (.int (nI p)), some (.int (lsB (m 102) (m 106) p k)), some (.int 1), some (.int (nI k)), none, none]) dX4_panHears_79 (Nat.le_of_ble_eq_true rfl) (Nat.le_of_ble_eq_true rfl) (jnl_at (i := 2) rfl) rfl ?_
            refine e_iload_n dX4_panHears_80 rfl ?_
            refine e_if_lt 95 dX4_panHears_81 (by decide) (fun c81 => ?_) (fun c81 => ?_)
            · refine e_aload_n dX4_panHears_95 rfl ?_
              refine e_getR (o := 8) (b := 106) dX4_panHears_96 lkX4_31 rfl rfl (by decide) rfl ?_
              refine e_iload dX4_panHears_99 rfl ?_
              refine e_iald dX4_panHears_101 rfl k rfl (by omega) (by decide) ?_
              refine e_goto 106 dX4_panHears_102 (by decide) ?_
              refine e_istore_n (L' := [some (.ref 98), some (.int (nI p)), some (.int (m 106 k)), some (.int 1), some (.int (nI k)), none, none]) dX4_panHears_106 (Nat.le_of_ble_eq_true rfl) (Nat.le_of_ble_eq_true rfl) (jnl_at (i := 1) rfl) rfl ?_
              refine e_iinc (v := nI (k + 1)) (L' := [some (.ref 98), some (.int (nI p)), some (.int (m 106 k)), some (.int 1), some (.int (nI (k + 1))), none, none]) dX4_panHears_107 rfl (j_inc rfl) (by decide) (jnl_at (i := 3) rfl) rfl ?_
              refine e_goto 8 dX4_panHears_110 (by decide) ?_
              refine e_start ?_ rfl ih
              simp_all [lsB, rtB, b01, btI, j_ltn, -Int32.not_le, -Int32.not_lt]
            · refine e_aload_n dX4_panHears_84 rfl ?_
              refine e_getR (o := 8) (b := 106) dX4_panHears_85 lkX4_31 rfl rfl (by decide) rfl ?_
              refine e_iload dX4_panHears_88 rfl ?_
              refine e_iald dX4_panHears_90 rfl k rfl (by omega) (by decide) ?_
              refine e_iload_n dX4_panHears_91 rfl ?_
              refine e_icmp_ge 105 dX4_panHears_92 (by decide) (fun c92 => ?_) (fun c92 => ?_)
              · refine e_iload_n dX4_panHears_105 rfl ?_
                refine e_istore_n (L' := [some (.ref 98), some (.int (nI p)), some (.int (lsB (m 102) (m 106) p k)), some (.int 1), some (.int (nI k)), none, none]) dX4_panHears_106 (Nat.le_of_ble_eq_true rfl) (Nat.le_of_ble_eq_true rfl) (jnl_at (i := 1) rfl) rfl ?_
                refine e_iinc (v := nI (k + 1)) (L' := [some (.ref 98), some (.int (nI p)), some (.int (lsB (m 102) (m 106) p k)), some (.int 1), some (.int (nI (k + 1))), none, none]) dX4_panHears_107 rfl (j_inc rfl) (by decide) (jnl_at (i := 3) rfl) rfl ?_
                refine e_goto 8 dX4_panHears_110 (by decide) ?_
                refine e_start ?_ rfl ih
                simp_all [lsB, rtB, b01, btI, j_ltn, -Int32.not_le, -Int32.not_lt]
              · refine e_aload_n dX4_panHears_95 rfl ?_
                refine e_getR (o := 8) (b := 106) dX4_panHears_96 lkX4_31 rfl rfl (by decide) rfl ?_
                refine e_iload dX4_panHears_99 rfl ?_
                refine e_iald dX4_panHears_101 rfl k rfl (by omega) (by decide) ?_
                refine e_goto 106 dX4_panHears_102 (by decide) ?_
                refine e_istore_n (L' := [some (.ref 98), some (.int (nI p)), some (.int (m 106 k)), some (.int 1), some (.int (nI k)), none, none]) dX4_panHears_106 (Nat.le_of_ble_eq_true rfl) (Nat.le_of_ble_eq_true rfl) (jnl_at (i := 1) rfl) rfl ?_
                refine e_iinc (v := nI (k + 1)) (L' := [some (.ref 98), some (.int (nI p)), some (.int (m 106 k)), some (.int 1), some (.int (nI (k + 1))), none, none]) dX4_panHears_107 rfl (j_inc rfl) (by decide) (jnl_at (i := 3) rfl) rfl ?_
                refine e_goto 8 dX4_panHears_110 (by decide) ?_
                refine e_start ?_ rfl ih
                simp_all [lsB, rtB, b01, btI, j_ltn, -Int32.not_le, -Int32.not_lt]
          · refine e_if_eq 78 dX4_panHears_71 (by decide) (fun c71 => ?_) (fun h => absurd h (by decide))
            refine e_iconst (v := 0) dX4_panHears_78 rfl ?_
            refine e_istore_n (L' := [some (.ref 98), some (.int (nI p)), some (.int (lsB (m 102) (m 106) p k)), some (.int 0), some (.int (nI k)), none, none]) dX4_panHears_79 (Nat.le_of_ble_eq_true rfl) (Nat.le_of_ble_eq_true rfl) (jnl_at (i := 2) rfl) rfl ?_
            refine e_iload_n dX4_panHears_80 rfl ?_
            refine e_if_lt 95 dX4_panHears_81 (by decide) (fun c81 => ?_) (fun c81 => ?_)
            · refine e_aload_n dX4_panHears_95 rfl ?_
              refine e_getR (o := 8) (b := 106) dX4_panHears_96 lkX4_31 rfl rfl (by decide) rfl ?_
              refine e_iload dX4_panHears_99 rfl ?_
              refine e_iald dX4_panHears_101 rfl k rfl (by omega) (by decide) ?_
              refine e_goto 106 dX4_panHears_102 (by decide) ?_
              refine e_istore_n (L' := [some (.ref 98), some (.int (nI p)), some (.int (m 106 k)), some (.int 0), some (.int (nI k)), none, none]) dX4_panHears_106 (Nat.le_of_ble_eq_true rfl) (Nat.le_of_ble_eq_true rfl) (jnl_at (i := 1) rfl) rfl ?_
              refine e_iinc (v := nI (k + 1)) (L' := [some (.ref 98), some (.int (nI p)), some (.int (m 106 k)), some (.int 0), some (.int (nI (k + 1))), none, none]) dX4_panHears_107 rfl (j_inc rfl) (by decide) (jnl_at (i := 3) rfl) rfl ?_
              refine e_goto 8 dX4_panHears_110 (by decide) ?_
              refine e_start ?_ rfl ih
              simp_all [lsB, rtB, b01, btI, j_ltn, -Int32.not_le, -Int32.not_lt]
            · refine e_aload_n dX4_panHears_84 rfl ?_
              refine e_getR (o := 8) (b := 106) dX4_panHears_85 lkX4_31 rfl rfl (by decide) rfl ?_
              refine e_iload dX4_panHears_88 rfl ?_
              refine e_iald dX4_panHears_90 rfl k rfl (by omega) (by decide) ?_
              refine e_iload_n dX4_panHears_91 rfl ?_
              refine e_icmp_ge 105 dX4_panHears_92 (by decide) (fun c92 => ?_) (fun c92 => ?_)
              · refine e_iload_n dX4_panHears_105 rfl ?_
                refine e_istore_n (L' := [some (.ref 98), some (.int (nI p)), some (.int (lsB (m 102) (m 106) p k)), some (.int 0), some (.int (nI k)), none, none]) dX4_panHears_106 (Nat.le_of_ble_eq_true rfl) (Nat.le_of_ble_eq_true rfl) (jnl_at (i := 1) rfl) rfl ?_
                refine e_iinc (v := nI (k + 1)) (L' := [some (.ref 98), some (.int (nI p)), some (.int (lsB (m 102) (m 106) p k)), some (.int 0), some (.int (nI (k + 1))), none, none]) dX4_panHears_107 rfl (j_inc rfl) (by decide) (jnl_at (i := 3) rfl) rfl ?_
                refine e_goto 8 dX4_panHears_110 (by decide) ?_
                refine e_start ?_ rfl ih
                simp_all [lsB, rtB, b01, btI, j_ltn, -Int32.not_le, -Int32.not_lt]
              · refine e_aload_n dX4_panHears_95 rfl ?_
                refine e_getR (o := 8) (b := 106) dX4_panHears_96 lkX4_31 rfl rfl (by decide) rfl ?_
                refine e_iload dX4_panHears_99 rfl ?_
                refine e_iald dX4_panHears_101 rfl k rfl (by omega) (by decide) ?_
                refine e_goto 106 dX4_panHears_102 (by decide) ?_
                refine e_istore_n (L' := [some (.ref 98), some (.int (nI p)), some (.int (m 106 k)), some (.int 0), some (.int (nI k)), none, none]) dX4_panHears_106 (Nat.le_of_ble_eq_true rfl) (Nat.le_of_ble_eq_true rfl) (jnl_at (i := 1) rfl) rfl ?_
                refine e_iinc (v := nI (k + 1)) (L' := [some (.ref 98), some (.int (nI p)), some (.int (m 106 k)), some (.int 0), some (.int (nI (k + 1))), none, none]) dX4_panHears_107 rfl (j_inc rfl) (by decide) (jnl_at (i := 3) rfl) rfl ?_
                refine e_goto 8 dX4_panHears_110 (by decide) ?_
                refine e_start ?_ rfl ih
                simp_all [lsB, rtB, b01, btI, j_ltn, -Int32.not_le, -Int32.not_lt]
    · refine e_if_eq 107 dX4_panHears_33 (by decide) (fun c33 => ?_) (fun h => absurd h (by decide))
      refine e_iinc (v := nI (k + 1)) (L' := [some (.ref 98), some (.int (nI p)), some (.int (lsB (m 102) (m 106) p k)), some (.int (b01 (rtB (m 102) (m 106) p k))), some (.int (nI (k + 1))), none, none]) dX4_panHears_107 rfl (j_inc rfl) (by decide) (jnl_at (i := 3) rfl) rfl ?_
      refine e_goto 8 dX4_panHears_110 (by decide) ?_
      refine e_start ?_ rfl ih
      simp_all [lsB, rtB, b01, btI, j_ltn, -Int32.not_le, -Int32.not_lt]
